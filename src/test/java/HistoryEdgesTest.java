import java.math.BigInteger;
import java.util.Arrays;

/**
 * The edges that the document names for the history, and in promises 19 to 24: a test for each
 * sentence, under its words.
 */
public final class HistoryEdgesTest {
    private static final Class<IndexOutOfBoundsException> INDEX = IndexOutOfBoundsException.class;

    private static final String[] LONGEST = {"abcdefgh", "ijklmnop", "qrstuvwx", "yzacegik",
        "hgfedcba", "ponmlkji"};

    private static final Check CHECK = new Check("HistoryEdgesTest");

    public static void main(String[] args) {
        emptyHistory();
        eachFinishedLesson();
        lettersAndCleanOnes();
        timesOfAllStrokes();
        speedIsCut();
        fastestAndSlowest();
        noSuchLesson();
        nothingElseOfALesson();
        paceAtFirst();
        paceOfEachShare();
        paceJustAt95();
        paceJustAt85();
        paceIsCut();
        paceNotBelow20();
        paceNotAbove900();
        paceWithinALesson();
        plateauOfFive();
        plateauOfSix();
        plateauOfEqualSpeeds();
        plateauAtEachPlace();
        plateauOfTheLastSix();
        plateauOfCutSpeeds();
        accuracyOfNone();
        accuracyOfAllLessons();
        accuracyAtItsEnds();
        digestOfNothing();
        digestWrapsAround();
        digestOfWords();
        digestOfPairsThatWereTried();
        digestOfTheFirstAndTheLastPair();
        digestOfMistakes();
        digestOfALesson();
        digestOfTheHistory();
        CHECK.end();
    }

    private static void checkLesson(TypingTutor tutor, int lesson, int... due) {
        for (int what = 0; what <= 3; what++) {
            CHECK.is("lesson(" + lesson + ", " + what + ")", due[what],
                tutor.lesson(lesson, what));
        }
    }

    // ---- promises 19 and 20

    private static void emptyHistory() {
        CHECK.promise("19: returns the number of lessons in the history (none)");
        CHECK.is("lessons() new", 0, new TypingTutor().lessons());
        TypingTutor tutor = Typing.withWords("a");
        tutor.openWord(0);
        CHECK.is("lessons() within the first", 0, tutor.lessons());
        tutor.giveUp();
        CHECK.is("lessons() given up", 0, tutor.lessons());
    }

    private static void eachFinishedLesson() {
        CHECK.promise("for each lesson that was finished it is kept ..");
        TypingTutor tutor = Typing.withWords("a", "bc");
        for (int count = 1; count <= 100; count++) {
            Typing.lesson(tutor, 0, "a", count);
            CHECK.is("lessons()", count, tutor.lessons());
        }
        for (int lesson = 0; lesson < 100; lesson++) {
            CHECK.is("lesson(" + lesson + ", 2)", lesson + 1, tutor.lesson(lesson, 2));
        }
    }

    private static void lettersAndCleanOnes() {
        CHECK.promise("how many letters it had, how many of them were clean");
        TypingTutor tutor = Typing.withWords("abc");
        Typing.lesson(tutor, 0, "abc", 100);
        checkLesson(tutor, 0, 3, 3, 300, 600);
        Typing.lesson(tutor, 0, "papbpc", 100);
        checkLesson(tutor, 1, 3, 0, 600, 300);
        Typing.lesson(tutor, 0, "pppppp", 100);
        checkLesson(tutor, 2, 3, 0, 600, 300);
        // the first, the middle and the last letter alone
        Typing.lesson(tutor, 0, "appc", 100);
        checkLesson(tutor, 3, 3, 2, 400, 450);
        Typing.lesson(tutor, 0, "papbc", 100);
        checkLesson(tutor, 4, 3, 1, 500, 360);
        Typing.lesson(tutor, 0, "abpc", 100);
        checkLesson(tutor, 5, 3, 2, 400, 450);
    }

    private static void timesOfAllStrokes() {
        CHECK.promise("the sum of the times of all its strokes (mistakes and the first one too)");
        TypingTutor tutor = Typing.withWords("ab");
        tutor.openWord(0);
        tutor.strike(0, 1);
        tutor.strike(15, 20);
        tutor.strike(1, 300);
        CHECK.is("lesson(0, 2), right behind a mistake", 321, tutor.lesson(0, 2));
        tutor.openWord(0);
        tutor.strike(15, 4000);
        tutor.strike(15, 300);
        tutor.strike(15, 20);
        tutor.strike(15, 1);
        CHECK.is("lesson(1, 2), passed over", 4321, tutor.lesson(1, 2));
        CHECK.is("lesson(0, 2) still", 321, tutor.lesson(0, 2));
    }

    private static void speedIsCut() {
        CHECK.promise("its speed is the number of its letters times 60000, divided by that sum (cut"
            + " towards 0)");
        int[][] due = {{1, 60000}, {2, 30000}, {3, 20000}, {7, 8571}, {245, 244}, {244, 245},
            {4615, 13}, {4616, 12}, {4999, 12}, {5000, 12}, {3750, 16}, {3751, 15}};
        for (int[] one : due) {
            TypingTutor tutor = Typing.withWords("a");
            Typing.lesson(tutor, 0, "a", one[0]);
            CHECK.is("lesson(0, 3) of one letter, " + one[0], one[1], tutor.lesson(0, 3));
        }
        for (int time = 1; time <= 5000; time++) {
            TypingTutor tutor = Typing.withWords("abc");
            Typing.lesson(tutor, 0, "abc", time);
            // the times of three letters cancel out
            CHECK.is("lesson(0, 3) of three letters, " + time, 60000 / time, tutor.lesson(0, 3));
        }
    }

    private static void fastestAndSlowest() {
        CHECK.promise("the number of its letters times 60000, divided by that sum (the greatest"
            + " lesson)");
        TypingTutor tutor = Typing.withWords(LONGEST);
        tutor.open(6);
        Typing.typeUpTo(tutor, 48, 1);
        checkLesson(tutor, 0, 48, 48, 48, 60000);
        tutor.open(6);
        while (tutor.isOpen()) {
            tutor.strike((tutor.wanted() + 13) % 26, 5000);
        }
        checkLesson(tutor, 1, 48, 0, 480000, 6);
    }

    private static TypingTutor withLessons(int count) {
        TypingTutor tutor = Typing.withWords("ab", "c");
        for (int i = 0; i < count; i++) {
            Typing.lesson(tutor, 1, "c", 100 + i);
        }
        return tutor;
    }

    private static void noSuchLesson() {
        CHECK.promise("20: IndexOutOfBoundsException if there is no such lesson");
        for (int count : new int[] {0, 1, 2, 6}) {
            if (count > 0) {
                CHECK.is("lesson(0, 2)", 100, withLessons(count).lesson(0, 2));
                CHECK.is("lesson(" + (count - 1) + ", 2)", 99 + count,
                    withLessons(count).lesson(count - 1, 2));
            }
            for (int lesson : new int[] {count, -1, 255, 256, Integer.MIN_VALUE,
                Integer.MAX_VALUE}) {
                for (int what = -1; what <= 4; what++) {
                    refuseLesson(count, lesson, what);
                }
            }
        }
        CHECK.refused("lesson(1, 0) within the second lesson", INDEX, () -> {
            TypingTutor tutor = withLessons(1);
            Typing.lesson(tutor, 0, "a", 100);
            return tutor;
        }, tutor -> tutor.lesson(1, 0));
    }

    private static void nothingElseOfALesson() {
        CHECK.promise("20: IndexOutOfBoundsException if what is not 0 to 3");
        checkLesson(withLessons(1), 0, 1, 1, 100, 600);
        for (int what : new int[] {-1, 4, Integer.MIN_VALUE, Integer.MAX_VALUE}) {
            refuseLesson(1, 0, what);
            refuseLesson(6, 5, what);
        }
    }

    private static void refuseLesson(int count, int lesson, int what) {
        CHECK.refused("lesson(" + lesson + ", " + what + ") of " + count, INDEX,
            () -> withLessons(count), tutor -> tutor.lesson(lesson, what));
    }

    // ---- pace

    private static void paceAtFirst() {
        CHECK.promise("the pace that is advised is at first 100");
        CHECK.is("pace() new", 100, new TypingTutor().pace());
        CHECK.is("pace() with words", 100, Typing.withWords("a").pace());
    }

    /** A tutor behind a first lesson of so many letters, the first of them not clean. */
    private static TypingTutor behindShare(int letters, int clean) {
        String[] words = new String[6];
        int count = 0;
        for (int rest = letters; rest > 0; rest -= 8) {
            words[count] = LONGEST[count].substring(0, Math.min(8, rest));
            count++;
        }
        TypingTutor tutor = Typing.withWords(Arrays.copyOf(words, count));
        tutor.open(6);
        for (int letter = 0; letter < letters; letter++) {
            int wanted = tutor.wanted();
            if (letter < letters - clean) {
                tutor.strike((wanted + 13) % 26, 100);
            }
            tutor.strike(wanted, 100);
        }
        CHECK.is("lesson(0, 0)", letters, tutor.lesson(0, 0));
        CHECK.is("lesson(0, 1)", clean, tutor.lesson(0, 1));
        return tutor;
    }

    private static void paceOfEachShare() {
        CHECK.promise("if at least 95 of 100 letters were clean ..; if fewer than 85 of 100 ..");
        for (int letters = 1; letters <= 48; letters++) {
            for (int clean = 0; clean <= letters; clean++) {
                // 95 of 100 are 19 of 20, 85 of 100 are 17 of 20
                int due = 20 * clean >= 19 * letters ? 106 : 20 * clean < 17 * letters ? 90 : 100;
                CHECK.is("pace() behind " + clean + " of " + letters, due,
                    behindShare(letters, clean).pace());
            }
        }
    }

    private static void paceJustAt95() {
        CHECK.promise("if at least 95 of 100 letters were clean, it becomes greater");
        CHECK.is("20 of 20", 106, behindShare(20, 20).pace());
        CHECK.is("19 of 20", 106, behindShare(20, 19).pace());
        CHECK.is("18 of 20", 100, behindShare(20, 18).pace());
        CHECK.is("38 of 40", 106, behindShare(40, 38).pace());
        CHECK.is("37 of 40", 100, behindShare(40, 37).pace());
        CHECK.is("18 of 19, 94.7", 100, behindShare(19, 18).pace());
        CHECK.is("20 of 21, 95.2", 106, behindShare(21, 20).pace());
    }

    private static void paceJustAt85() {
        CHECK.promise("if fewer than 85 of 100 were clean, it becomes less");
        CHECK.is("17 of 20", 100, behindShare(20, 17).pace());
        CHECK.is("16 of 20", 90, behindShare(20, 16).pace());
        CHECK.is("34 of 40", 100, behindShare(40, 34).pace());
        CHECK.is("33 of 40", 90, behindShare(40, 33).pace());
        CHECK.is("11 of 13, 84.6", 90, behindShare(13, 11).pace());
        CHECK.is("6 of 7, 85.7", 100, behindShare(7, 6).pace());
        CHECK.is("0 of 1", 90, behindShare(1, 0).pace());
    }

    private static int[] runs(int... runs) {
        return runs;
    }

    /** A tutor behind so many lessons that make the pace greater, then less, then greater .. */
    private static TypingTutor paced(int[] runs) {
        TypingTutor tutor = Typing.withWords("a");
        for (int run = 0; run < runs.length; run++) {
            for (int i = 0; i < runs[run]; i++) {
                Typing.lesson(tutor, 0, run % 2 == 0 ? "a" : "pp", 100);
            }
        }
        return tutor;
    }

    /** Then a lesson for each u, that makes the pace greater, and each d, that makes it less. */
    private static void checkPaces(int[] runs, String ways, int... due) {
        TypingTutor tutor = paced(runs);
        for (int i = 0; i < due.length; i++) {
            Typing.lesson(tutor, 0, ways.charAt(i) == 'u' ? "a" : "pp", 100);
            CHECK.is("pace() behind " + Arrays.toString(runs) + ways.substring(0, i + 1), due[i],
                tutor.pace());
        }
    }

    private static void paceIsCut() {
        CHECK.promise("greater by a twentieth (cut towards 0), and by 1; less by a tenth (cut"
            + " towards 0)");
        // 100 / 20 is 5, 106 / 20 5.3, 112 / 20 5.6, 118 / 20 5.9, 124 / 20 6.2
        checkPaces(runs(), "uuuuu", 106, 112, 118, 124, 131);
        // 100 / 10 is 10, 90 / 10 9, 81 / 10 8.1, 73 / 10 7.3, 66 / 10 6.6, 60 / 10 6
        checkPaces(runs(), "dddddd", 90, 81, 73, 66, 60, 54);
        // 106 / 10 is 10.6, 96 / 20 4.8, 101 / 10 10.1
        checkPaces(runs(), "udud", 106, 96, 101, 91);
    }

    private static void paceNotBelow20() {
        CHECK.promise("it is never less than 20");
        // 22 - 2 is 20; 20 - 2 would be 18, and from there it would go up to 19
        checkPaces(runs(0, 16), "ddddu", 20, 20, 20, 20, 22);
        // 21 - 2 would be 19, and from there it would go up to 20
        checkPaces(runs(0, 1, 1, 15), "dddu", 21, 20, 20, 22);
        checkPaces(runs(0, 1, 1, 15), "ddu", 21, 20, 22);
    }

    private static void paceNotAbove900() {
        CHECK.promise("it is never more than 900");
        // 892 + 45 would be 937
        checkPaces(runs(42), "uuuuud", 892, 900, 900, 900, 900, 810);
        // 856 + 43 is 899
        checkPaces(runs(11, 1, 33), "uud", 899, 900, 810);
        // 857 + 43 is 900
        checkPaces(runs(6, 1, 2, 1, 33, 1, 7, 1, 2), "uud", 900, 900, 810);
        // 858 + 43 would be 901
        checkPaces(runs(6, 1, 2, 1, 27, 1, 13), "uud", 900, 900, 810);
    }

    private static void paceWithinALesson() {
        CHECK.promise("behind each lesson that is finished (and not before)");
        TypingTutor tutor = Typing.withWords("ab");
        Typing.lesson(tutor, 0, "ppp", 100);
        CHECK.is("pace() before the last stroke", 100, tutor.pace());
        tutor.strike(15, 100);
        CHECK.is("pace() behind it", 90, tutor.pace());
        Typing.lesson(tutor, 0, "pp", 100);
        tutor.giveUp();
        CHECK.is("pace() behind one given up", 90, tutor.pace());
    }

    // ---- promise 22

    private static TypingTutor timed(int... times) {
        TypingTutor tutor = Typing.withWords("a");
        for (int time : times) {
            Typing.lesson(tutor, 0, "a", time);
        }
        return tutor;
    }

    private static void checkPlateau(boolean due, int... times) {
        CHECK.is("isPlateau() of " + Arrays.toString(times), due, timed(times).isPlateau());
    }

    private static void plateauOfFive() {
        CHECK.promise("a plateau if there are at least 6 lessons in the history (fewer)");
        checkPlateau(false);
        checkPlateau(false, 100);
        checkPlateau(false, 100, 200);
        checkPlateau(false, 100, 200, 300);
        checkPlateau(false, 100, 200, 300, 400);
        checkPlateau(false, 100, 200, 300, 400, 500);
        TypingTutor tutor = timed(100, 200, 300, 400, 500);
        tutor.openWord(0);
        CHECK.is("isPlateau() within the sixth", false, tutor.isPlateau());
        tutor.giveUp();
        CHECK.is("isPlateau() behind the sixth given up", false, tutor.isPlateau());
    }

    private static void plateauOfSix() {
        CHECK.promise("a plateau if there are at least 6 lessons in the history");
        checkPlateau(true, 100, 200, 300, 400, 500, 600);
        checkPlateau(true, 100, 100, 100, 100, 100, 100);
        checkPlateau(false, 600, 500, 400, 300, 200, 100);
        checkPlateau(true, 100, 200, 300, 400, 500, 600, 700);
        checkPlateau(false, 700, 600, 500, 400, 300, 200, 100);
    }

    private static void plateauOfEqualSpeeds() {
        CHECK.promise("the greatest speed of the last 3 is not greater than that of the 3 before");
        // the speeds are 600 at 100, 606 at 99, 594 at 101
        checkPlateau(true, 100, 100, 100, 101, 101, 101);
        checkPlateau(true, 100, 100, 100, 100, 100, 100);
        checkPlateau(false, 100, 100, 100, 99, 99, 99);
        // one more at the least: 12 and 13, 29999 and 30000 have no times between them
        checkPlateau(false, 4616, 4616, 4616, 4615, 4615, 4615);
        checkPlateau(true, 4615, 4615, 4615, 4616, 4616, 4616);
        checkPlateau(false, 2, 2, 2, 1, 1, 1);
        checkPlateau(true, 1, 1, 1, 1, 1, 1);
        checkPlateau(true, 5000, 5000, 5000, 5000, 5000, 5000);
    }

    private static void plateauAtEachPlace() {
        CHECK.promise("the greatest speed of the last 3 .. of the 3 before them (any of them)");
        for (int fast = 0; fast < 6; fast++) {
            int[] times = {200, 200, 200, 200, 200, 200};
            times[fast] = 100;
            checkPlateau(fast < 3, times);
        }
        for (int before = 0; before < 3; before++) {
            for (int last = 3; last < 6; last++) {
                int[] times = {300, 300, 300, 300, 300, 300};
                times[before] = 100;
                times[last] = 100;
                checkPlateau(true, times);
                times[last] = 99;
                checkPlateau(false, times);
                times[last] = 101;
                checkPlateau(true, times);
            }
        }
    }

    private static void plateauOfTheLastSix() {
        CHECK.promise("the last 3 .. the 3 before them (and none before those)");
        checkPlateau(false, 1, 200, 200, 200, 199, 200, 200);
        checkPlateau(true, 200, 100, 200, 200, 200, 200, 100);
        checkPlateau(true, 200, 200, 200, 100, 200, 200, 100);
        checkPlateau(false, 1, 1, 1, 200, 200, 200, 199, 200, 200);
        checkPlateau(false, 200, 200, 200, 1, 200, 200, 200, 100, 200, 200);
    }

    private static void plateauOfCutSpeeds() {
        CHECK.promise("the greatest speed (which is cut)");
        // 60000 / 4001 and 60000 / 4285 are 14 both, 60000 / 4000 is 15
        checkPlateau(true, 4285, 4285, 4285, 4001, 4001, 4001);
        checkPlateau(false, 4001, 4001, 4001, 4000, 4001, 4001);
    }

    // ---- promise 23

    private static void accuracyOfNone() {
        CHECK.promise("23: 1 if there are none");
        CHECK.is("accuracy() new", 1.0, new TypingTutor().accuracy());
        TypingTutor tutor = Typing.withWords("ab");
        Typing.lesson(tutor, 0, "pppp".substring(0, 3), 100);
        CHECK.is("accuracy() within the first", 1.0, tutor.accuracy());
        tutor.giveUp();
        CHECK.is("accuracy() given up", 1.0, tutor.accuracy());
    }

    private static void accuracyOfAllLessons() {
        CHECK.promise("23: the number of clean letters of all lessons in the history, divided by"
            + " the number of all their letters");
        TypingTutor tutor = Typing.withWords("abcdefg", "x");
        Typing.lesson(tutor, 0, "papbcdefg", 100);
        CHECK.is("accuracy() of 5 of 7", 5.0 / 7.0, tutor.accuracy());
        Typing.lesson(tutor, 1, "x", 100);
        // not the mean of 5 / 7 and 1
        CHECK.is("accuracy() of 6 of 8", 0.75, tutor.accuracy());
        Typing.lesson(tutor, 1, "qq", 100);
        CHECK.is("accuracy() of 6 of 9", 6.0 / 9.0, tutor.accuracy());
        Typing.lesson(tutor, 0, "pppp", 100);
        CHECK.is("accuracy() within a lesson", 6.0 / 9.0, tutor.accuracy());
    }

    private static void accuracyAtItsEnds() {
        CHECK.promise("23: the number of clean letters .. (none, one, all but one, all)");
        CHECK.is("accuracy() of 0 of 48", 0.0, behindShare(48, 0).accuracy());
        CHECK.is("accuracy() of 1 of 48", 1.0 / 48.0, behindShare(48, 1).accuracy());
        CHECK.is("accuracy() of 47 of 48", 47.0 / 48.0, behindShare(48, 47).accuracy());
        CHECK.is("accuracy() of 48 of 48", 1.0, behindShare(48, 48).accuracy());
        CHECK.is("accuracy() of 0 of 1", 0.0, behindShare(1, 0).accuracy());
    }

    // ---- promise 24

    /** The number that d is, without an end to its digits. */
    private static BigInteger unwrapped(long... numbers) {
        BigInteger d = BigInteger.valueOf(191);
        for (long number : numbers) {
            d = d.multiply(BigInteger.valueOf(31)).add(BigInteger.valueOf(number));
        }
        return d;
    }

    private static void checkDigest(TypingTutor tutor, long... numbers) {
        CHECK.is("digest()", unwrapped(numbers).longValue(), tutor.digest());
        CHECK.is("digest() again", unwrapped(numbers).longValue(), tutor.digest());
    }

    private static long[] row(long[]... parts) {
        long[] all = new long[0];
        for (long[] part : parts) {
            int end = all.length;
            all = Arrays.copyOf(all, end + part.length);
            System.arraycopy(part, 0, all, end, part.length);
        }
        return all;
    }

    private static long[] of(long... numbers) {
        return numbers;
    }

    /** Tries, mistakes and level of so many keys that were never tried. */
    private static long[] untried(int keys) {
        long[] numbers = new long[3 * keys];
        for (int key = 0; key < keys; key++) {
            numbers[3 * key + 2] = 500;
        }
        return numbers;
    }

    private static void digestOfNothing() {
        CHECK.promise("24: a number d starts with 191 (no words, no pairs, no lesson, no history)");
        checkDigest(new TypingTutor(), row(of(0), untried(26), of(0, 0, 0, 0, 0, 0, 100)));
    }

    private static void digestWrapsAround() {
        CHECK.promise("24: which wraps around as a 64-bit integer");
        boolean below = false;
        boolean above = false;
        for (int count = 0; count <= 8; count++) {
            long[] words = new long[count];
            TypingTutor tutor = new TypingTutor();
            for (int i = 0; i < count; i++) {
                words[i] = 0x7a7a7a7a7a7a7a7aL - i;
                tutor.addWord(words[i]);
            }
            long[] numbers = row(of(count), words, untried(26), of(0, 0, 0, 0, 0, 0, 100));
            CHECK.is("more than 64 bits", true, unwrapped(numbers).bitLength() > 64);
            checkDigest(tutor, numbers);
            below |= tutor.digest() < 0;
            above |= tutor.digest() > 0;
        }
        CHECK.is("a digest below 0 and one above", true, below && above);
    }

    private static void digestOfWords() {
        CHECK.promise("24: the number of words, and these");
        long[] words = new long[40];
        for (int i = 0; i < 40; i++) {
            words[i] = Typing.oneOf40(i);
        }
        checkDigest(Typing.withFirstOf40(40),
            row(of(40), words, untried(26), of(0, 0, 0, 0, 0, 0, 100)));
        checkDigest(Typing.withFirstOf40(1),
            row(of(1, words[0]), untried(26), of(0, 0, 0, 0, 0, 0, 100)));
    }

    private static void digestOfPairsThatWereTried() {
        CHECK.promise("24: for each pair that was tried, in ascending order of 26 times the first"
            + " key plus the second one");
        long zz = Typing.number("zz");
        long az = Typing.number("az");
        TypingTutor tutor = Typing.withWords("zz", "az");
        Typing.lesson(tutor, 0, "zz", 500);
        Typing.lesson(tutor, 1, "a", 500);
        // az is not tried yet, with a mistake at z neither
        checkDigest(tutor, row(of(2, zz, az, 1, 0, 600), untried(24), of(2, 0, 675),
            of(675, 1, 0, 600), of(0, 0, 0, 0, 1, 1, 1, 1, 1, 2, 2, 1000, 120, 106)));
        tutor.strike(Typing.key('p'), 500);
        checkDigest(tutor, row(of(2, zz, az, 1, 0, 600), untried(24), of(2, 0, 675),
            of(675, 1, 0, 600), of(0, 0, 0, 1, 1, 1, 1, 1, 1, 2, 2, 1000, 120, 106)));
        tutor.strike(Typing.key('p'), 500);
        // z falls from 675 to 507, az from 500 to 375; 1 of 2 letters was clean
        checkDigest(tutor, row(of(2, zz, az, 1, 0, 600), untried(24), of(3, 1, 507),
            of(25, 1, 1, 375, 675, 1, 0, 600),
            of(0, 0, 0, 2, 0, 2, 2, 2, 1000, 120, 2, 1, 1500, 80, 96)));
    }

    private static void digestOfTheFirstAndTheLastPair() {
        CHECK.promise("24: for each pair that was tried (0 to 675)");
        long aa = Typing.number("aa");
        long zz = Typing.number("zz");
        TypingTutor tutor = Typing.withWords("zz", "aa");
        Typing.lesson(tutor, 1, "aa", 2500);
        checkDigest(tutor, row(of(2, zz, aa, 2, 0, 500), untried(25), of(0, 1, 0, 500),
            of(0, 0, 0, 0, 0, 1, 2, 2, 5000, 24, 106)));
        Typing.lesson(tutor, 0, "zz", 2500);
        checkDigest(tutor, row(of(2, zz, aa, 2, 0, 500), untried(24), of(2, 0, 500),
            of(0, 1, 0, 500, 675, 1, 0, 500),
            of(0, 0, 0, 0, 0, 2, 2, 2, 5000, 24, 2, 2, 5000, 24, 112)));
    }

    private static void digestOfMistakes() {
        CHECK.promise("24: the mistakes of each kind");
        String keys = "etgq";
        for (int kind = 1; kind <= 4; kind++) {
            long[] kinds = new long[4];
            kinds[kind - 1] = 1;
            TypingTutor tutor = Typing.withWords("the");
            tutor.openWord(0);
            Typing.strike(tutor, "t" + keys.charAt(kind - 1), 500);
            checkDigest(tutor, row(of(1, Typing.number("the")), untried(19), of(1, 0, 600),
                untried(6), kinds, of(1, 1, 0, 1, 0, 100)));
        }
    }

    private static void digestOfALesson() {
        CHECK.promise("24: 1 if a lesson is open, else 0, and if so, the number of its words, their"
            + " numbers, and how many letters were tried");
        TypingTutor tutor = Typing.withWords("z", "yx", "xw", "wv", "vu", "ut", "ts");
        long[] words = {7, 'z', Typing.number("yx"), Typing.number("xw"), Typing.number("wv"),
            Typing.number("vu"), Typing.number("ut"), Typing.number("ts")};
        long[] start = row(words, untried(26), of(0, 0, 0, 0));
        checkDigest(tutor, row(start, of(0, 0, 100)));
        tutor.open(6);
        checkDigest(tutor, row(start, of(1, 6, 1, 2, 3, 4, 5, 6, 0, 0, 100)));
        tutor.giveUp();
        checkDigest(tutor, row(start, of(0, 0, 100)));
        tutor.openWord(6);
        checkDigest(tutor, row(start, of(1, 1, 6, 0, 0, 100)));
        tutor.giveUp();
        // the last letter but one, of six words
        tutor.open(6);
        Typing.typeUpTo(tutor, 11, 2500);
        long[] tries = row(untried(19), of(2, 0, 500, 2, 0, 500, 2, 0, 500, 2, 0, 500, 2, 0, 500),
            of(1, 0, 500, 0, 0, 500));
        long[] pairs = of(pairNumber("ut"), 1, 0, 500, pairNumber("vu"), 1, 0, 500,
            pairNumber("wv"), 1, 0, 500, pairNumber("xw"), 1, 0, 500, pairNumber("yx"), 1, 0, 500);
        checkDigest(tutor, row(words, tries, pairs, of(0, 0, 0, 0),
            of(1, 6, 1, 2, 3, 4, 5, 6, 11, 0, 100)));
    }

    private static int pairNumber(String pair) {
        return 26 * Typing.key(pair.charAt(0)) + Typing.key(pair.charAt(1));
    }

    private static void digestOfTheHistory() {
        CHECK.promise("24: the number of lessons in the history, and for each of them what lesson()"
            + " tells, in its order; the pace");
        TypingTutor tutor = Typing.withWords("b");
        Typing.lesson(tutor, 0, "b", 2500);
        Typing.lesson(tutor, 0, "b", 2499);
        Typing.lesson(tutor, 0, "b", 7);
        // 500, 500 + 1 / 4, 500 + 499 / 4; the paces 106, 112, 118
        checkDigest(tutor, row(of(1, 'b'), untried(1), of(3, 0, 624), untried(24),
            of(0, 0, 0, 0, 0), of(3, 1, 1, 2500, 24, 1, 1, 2499, 24, 1, 1, 7, 8571, 118)));
    }
}
