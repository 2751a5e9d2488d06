import java.util.Arrays;

/** Promises 19 to 24, by answers worked out by hand from the document's words. */
public final class HistoryTest {
    private static final Class<IndexOutOfBoundsException> INDEX = IndexOutOfBoundsException.class;

    private static final Check CHECK = new Check("HistoryTest");

    public static void main(String[] args) {
        lessons();
        lesson();
        lessonOfFastStrokes();
        lessonRefuses();
        manyLessons();
        pace();
        paceAtItsBounds();
        paceUpwards();
        paceDownwards();
        isPlateau();
        isPlateauOfSlowerAndFaster();
        accuracy();
        digestOfANewOne();
        digestWithinALesson();
        digestBehindLessons();
        digestOfTheFirstAndLastPair();
        CHECK.end();
    }

    private static void lessons() {
        CHECK.promise("19 lessons");
        TypingTutor tutor = Typing.withWords("ab");
        tutor.openWord(0);
        CHECK.is("lessons() within the first", 0, tutor.lessons());
        Typing.strike(tutor, "ab", 10);
        CHECK.is("lessons()", 1, tutor.lessons());
        Typing.lesson(tutor, 0, "a", 10);
        tutor.giveUp();
        CHECK.is("lessons() behind one given up", 1, tutor.lessons());
        Typing.lesson(tutor, 0, "xxxx", 10);
        CHECK.is("lessons() behind one passed over", 2, tutor.lessons());
    }

    private static void lesson() {
        CHECK.promise("20 lesson");
        TypingTutor tutor = Typing.withWords("the", "a");
        // 3 letters of 1 clean, 100 + 200 + 300 + 400 + 500 milliseconds
        tutor.openWord(0);
        tutor.strike(Typing.key('t'), 100);
        tutor.strike(Typing.key('q'), 200);
        tutor.strike(Typing.key('h'), 300);
        tutor.strike(Typing.key('q'), 400);
        tutor.strike(Typing.key('q'), 500);
        checkLesson(tutor, 0, 3, 1, 1500, 120);
        Typing.lesson(tutor, 1, "a", 7);
        checkLesson(tutor, 1, 1, 1, 7, 8571);
        tutor.open(2);
        Typing.strike(tutor, "thea", 5000);
        checkLesson(tutor, 2, 4, 4, 20000, 12);
        checkLesson(tutor, 0, 3, 1, 1500, 120);
        Typing.lesson(tutor, 1, "a", 5000);
        checkLesson(tutor, 3, 1, 1, 5000, 12);
        Typing.lesson(tutor, 1, "a", 1);
        checkLesson(tutor, 4, 1, 1, 1, 60000);
    }

    private static void lessonOfFastStrokes() {
        CHECK.promise("20 lesson");
        TypingTutor tutor = Typing.withWords("abcdefgh", "ijklmnop", "qrstuvwx", "yzabcdex",
            "hgfedcba", "ponmlkji");
        tutor.open(6);
        typeOn(tutor, 0, 1);
        checkLesson(tutor, 0, 48, 48, 48, 60000);
        tutor.open(6);
        typeOn(tutor, 48, 5000);
        checkLesson(tutor, 1, 48, 0, 480000, 6);
    }

    private static void lessonRefuses() {
        CHECK.promise("20 lesson");
        TypingTutor tutor = Typing.withWords("a");
        CHECK.refuses("lesson(0, 0) of none", INDEX, tutor, () -> tutor.lesson(0, 0));
        tutor.openWord(0);
        CHECK.refuses("lesson(0, 0) within it", INDEX, tutor, () -> tutor.lesson(0, 0));
        Typing.strike(tutor, "a", 10);
        for (int number : new int[] {-1, 1, 255, 256, Integer.MIN_VALUE, Integer.MAX_VALUE}) {
            CHECK.refuses("lesson(" + number + ", 0)", INDEX, tutor, () -> tutor.lesson(number, 0));
        }
        for (int what : new int[] {-1, 4, Integer.MIN_VALUE, Integer.MAX_VALUE}) {
            CHECK.refuses("lesson(0, " + what + ")", INDEX, tutor, () -> tutor.lesson(0, what));
        }
    }

    private static void checkLesson(TypingTutor tutor, int number, int... due) {
        for (int what = 0; what <= 3; what++) {
            CHECK.is("lesson(" + number + ", " + what + ")", due[what],
                tutor.lesson(number, what));
        }
    }

    /** The calls of an object's life finish 255 lessons, and leave one call behind them. */
    private static void manyLessons() {
        CHECK.promise("19 lessons, 20 lesson");
        CHECK.is("lessons()", 255, behindManyLessons().lessons());
        CHECK.is("lesson(254, 2)", 255, behindManyLessons().lesson(254, 2));
        CHECK.is("lesson(0, 2)", 1, behindManyLessons().lesson(0, 2));
        CHECK.is("pace()", 900, behindManyLessons().pace());
    }

    private static TypingTutor behindManyLessons() {
        TypingTutor tutor = Typing.withWords("a");
        for (int time = 1; time <= 255; time++) {
            Typing.lesson(tutor, 0, "a", time);
        }
        return tutor;
    }

    /** Types the lesson that is open, with a mistake and a right stroke at its first letters. */
    private static void typeOn(TypingTutor tutor, int unclean, int time) {
        for (int letter = 0; tutor.isOpen(); letter++) {
            int wanted = tutor.wanted();
            if (letter < unclean) {
                tutor.strike((wanted + 1) % 26, time);
            }
            tutor.strike(wanted, time);
        }
    }

    /** The pace behind a first lesson of so many letters, so many of them clean. */
    private static int paceBehind(int letters, int clean) {
        String[] words = new String[6];
        int count = 0;
        for (int rest = letters; rest > 0; rest -= 8) {
            words[count] = "abcdefghijklmnop".substring(count, count + Math.min(8, rest));
            count++;
        }
        TypingTutor tutor = Typing.withWords(Arrays.copyOf(words, count));
        tutor.open(6);
        typeOn(tutor, letters - clean, 100);
        CHECK.is("lesson(0, 0)", letters, tutor.lesson(0, 0));
        CHECK.is("lesson(0, 1)", clean, tutor.lesson(0, 1));
        return tutor.pace();
    }

    private static void pace() {
        CHECK.promise("21 pace");
        CHECK.is("pace(), 1 of 1", 106, paceBehind(1, 1));
        CHECK.is("pace(), 0 of 1", 90, paceBehind(1, 0));
        CHECK.is("pace(), 9 of 10", 100, paceBehind(10, 9));
        CHECK.is("pace(), 8 of 10", 90, paceBehind(10, 8));
        CHECK.is("pace(), 48 of 48", 106, paceBehind(48, 48));
    }

    private static void paceAtItsBounds() {
        CHECK.promise("21 pace");
        CHECK.is("pace(), 19 of 20, just 95", 106, paceBehind(20, 19));
        CHECK.is("pace(), 38 of 40, just 95", 106, paceBehind(40, 38));
        CHECK.is("pace(), 18 of 19, below 95", 100, paceBehind(19, 18));
        CHECK.is("pace(), 45 of 48, below 95", 100, paceBehind(48, 45));
        CHECK.is("pace(), 46 of 48, above 95", 106, paceBehind(48, 46));
        CHECK.is("pace(), 17 of 20, just 85", 100, paceBehind(20, 17));
        CHECK.is("pace(), 34 of 40, just 85", 100, paceBehind(40, 34));
        CHECK.is("pace(), 16 of 19, below 85", 90, paceBehind(19, 16));
        CHECK.is("pace(), 40 of 48, below 85", 90, paceBehind(48, 40));
        CHECK.is("pace(), 41 of 48, above 85", 100, paceBehind(48, 41));
    }

    private static void paceUpwards() {
        CHECK.promise("21 pace");
        TypingTutor tutor = Typing.withWords("a");
        int[] due = {106, 112, 118, 124, 131, 138, 145, 153, 161, 170, 179, 188, 198, 208, 219,
            230, 242, 255, 268, 282, 297, 312, 328, 345, 363, 382, 402, 423, 445, 468, 492, 517,
            543, 571, 600, 631, 663, 697, 732, 769, 808, 849, 892, 900, 900};
        for (int pace : due) {
            Typing.lesson(tutor, 0, "a", 100);
            CHECK.is("pace()", pace, tutor.pace());
        }
        Typing.lesson(tutor, 0, "xx", 100);
        CHECK.is("pace() down again", 810, tutor.pace());
    }

    private static void paceDownwards() {
        CHECK.promise("21 pace");
        TypingTutor tutor = Typing.withWords("a");
        int[] due = {90, 81, 73, 66, 60, 54, 49, 45, 41, 37, 34, 31, 28, 26, 24, 22, 20, 20, 20};
        for (int pace : due) {
            Typing.lesson(tutor, 0, "xx", 100);
            CHECK.is("pace()", pace, tutor.pace());
        }
        Typing.lesson(tutor, 0, "a", 100);
        CHECK.is("pace() up again", 22, tutor.pace());
        tutor.openWord(0);
        tutor.giveUp();
        CHECK.is("pace() behind one given up", 22, tutor.pace());
    }

    private static void isPlateau() {
        CHECK.promise("22 isPlateau");
        TypingTutor tutor = Typing.withWords("a");
        for (int count = 1; count <= 5; count++) {
            Typing.lesson(tutor, 0, "a", 100);
            CHECK.is("isPlateau() of " + count, false, tutor.isPlateau());
        }
        Typing.lesson(tutor, 0, "a", 100);
        CHECK.is("isPlateau() of 6 alike", true, tutor.isPlateau());
        tutor.openWord(0);
        CHECK.is("isPlateau() within a lesson", true, tutor.isPlateau());
        Typing.strike(tutor, "a", 99);
        CHECK.is("isPlateau() behind a faster one", false, tutor.isPlateau());
    }

    private static void isPlateauOfSlowerAndFaster() {
        CHECK.promise("22 isPlateau");
        // the greatest of three counts, wherever it stands
        checkPlateau(true, 100, 200, 200, 200, 200, 100);
        checkPlateau(true, 200, 200, 100, 100, 200, 200);
        checkPlateau(true, 200, 100, 200, 101, 150, 150);
        checkPlateau(false, 200, 101, 200, 300, 100, 300);
        checkPlateau(false, 101, 200, 300, 100, 300, 300);
        checkPlateau(false, 300, 200, 101, 300, 300, 100);
        // 60000 / 4001 and 60000 / 4002 are 14 both, cut
        checkPlateau(true, 4002, 4002, 4002, 4001, 4001, 4001);
        // the lessons before the last six do not count
        checkPlateau(false, 1, 200, 200, 200, 100, 200, 200);
        checkPlateau(true, 1000, 100, 200, 200, 200, 200, 150);
    }

    private static void checkPlateau(boolean due, int... times) {
        TypingTutor tutor = Typing.withWords("a");
        for (int time : times) {
            Typing.lesson(tutor, 0, "a", time);
        }
        CHECK.is("isPlateau() of " + Arrays.toString(times), due, tutor.isPlateau());
    }

    private static void accuracy() {
        CHECK.promise("23 accuracy");
        TypingTutor tutor = Typing.withWords("abc", "x");
        tutor.openWord(0);
        CHECK.is("accuracy() of none", 1.0, tutor.accuracy());
        Typing.strike(tutor, "qabc", 100);
        CHECK.is("accuracy()", 2.0 / 3.0, tutor.accuracy());
        Typing.lesson(tutor, 1, "x", 100);
        CHECK.is("accuracy()", 0.75, tutor.accuracy());
        Typing.lesson(tutor, 0, "qq", 100);
        tutor.giveUp();
        CHECK.is("accuracy() behind one given up", 0.75, tutor.accuracy());
        Typing.lesson(tutor, 0, "pppppp", 100);
        CHECK.is("accuracy()", 3.0 / 7.0, tutor.accuracy());
        TypingTutor none = Typing.withWords("x");
        Typing.lesson(none, 0, "qq", 100);
        CHECK.is("accuracy() of no clean one", 0.0, none.accuracy());
    }

    private static void digestOfANewOne() {
        CHECK.promise("24 digest");
        TypingTutor tutor = new TypingTutor();
        long d = mixed(191, 0);
        for (int key = 0; key < 26; key++) {
            d = mixed(d, 0, 0, 500);
        }
        CHECK.is("digest() new", mixed(d, 0, 0, 0, 0, 0, 0, 100), tutor.digest());
        CHECK.is("digest() again", tutor.digest(), tutor.digest());
    }

    private static void digestWithinALesson() {
        CHECK.promise("24 digest");
        TypingTutor tutor = Typing.withWords("c", "ba");
        tutor.open(2);
        Typing.strike(tutor, "baq", 500);
        // ba, then c; a and b are at 600, and the pair ba
        long d = mixed(191, 2, 'c', 'b' * 256 + 'a', 1, 0, 600, 1, 0, 600);
        for (int key = 2; key < 26; key++) {
            d = mixed(d, 0, 0, 500);
        }
        d = mixed(d, 26, 1, 0, 600);
        d = mixed(d, 0, 0, 0, 1);
        CHECK.is("digest()", mixed(d, 1, 2, 1, 0, 2, 0, 100), tutor.digest());
        tutor.giveUp();
        CHECK.is("digest() given up", mixed(d, 0, 0, 100), tutor.digest());
    }

    private static void digestBehindLessons() {
        CHECK.promise("24 digest");
        TypingTutor tutor = Typing.withWords("zz", "ab");
        Typing.lesson(tutor, 0, "zz", 500);
        Typing.lesson(tutor, 1, "bapp", 500);
        // at a: b is behind it, then right; at b: p twice. z twice: 600, 675
        long d = mixed(191, 2, 'z' * 256 + 'z', 'a' * 256 + 'b', 1, 1, 375, 1, 1, 375);
        for (int key = 2; key < 25; key++) {
            d = mixed(d, 0, 0, 500);
        }
        d = mixed(d, 2, 0, 675);
        d = mixed(d, 1, 1, 1, 375, 675, 1, 0, 600);
        d = mixed(d, 1, 0, 0, 2);
        d = mixed(d, 0, 2, 2, 2, 1000, 120, 2, 0, 2000, 60);
        CHECK.is("digest()", mixed(d, 106 - 10), tutor.digest());
    }

    private static void digestOfTheFirstAndLastPair() {
        CHECK.promise("24 digest");
        TypingTutor tutor = Typing.withWords("zz", "aa");
        Typing.lesson(tutor, 0, "zz", 500);
        Typing.lesson(tutor, 1, "aa", 500);
        long d = mixed(191, 2, 'z' * 256 + 'z', 'a' * 256 + 'a', 2, 0, 675);
        for (int key = 1; key < 25; key++) {
            d = mixed(d, 0, 0, 500);
        }
        d = mixed(d, 2, 0, 675);
        d = mixed(d, 0, 1, 0, 600, 675, 1, 0, 600);
        d = mixed(d, 0, 0, 0, 0);
        d = mixed(d, 0, 2, 2, 2, 1000, 120, 2, 2, 1000, 120);
        CHECK.is("digest()", mixed(d, 112), tutor.digest());
    }

    private static long mixed(long start, long... numbers) {
        long d = start;
        for (long number : numbers) {
            d = d * 31 + number;
        }
        return d;
    }
}
