/** Promises 7 to 14, by answers worked out by hand from the document's words. */
public final class LessonsTest {
    private static final Class<IllegalArgumentException> ARGUMENT = IllegalArgumentException.class;
    private static final Class<IllegalStateException> STATE = IllegalStateException.class;
    private static final Class<IndexOutOfBoundsException> INDEX = IndexOutOfBoundsException.class;

    private static final Check CHECK = new Check("LessonsTest");

    public static void main(String[] args) {
        open();
        openRefuses();
        openTakesTheWeakest();
        openCountsRepeatedPairs();
        openTakesTheFirstOfEqualOnes();
        openWord();
        giveUp();
        giveUpKeepsWhatWasLearned();
        isOpen();
        lessonWord();
        wanted();
        done();
        strikeTellsKinds();
        strikeKeepsToTheWord();
        strikeTakesTheFirstKind();
        strikePassesOver();
        strikeRefuses();
        strikeRefusedCountsNothing();
        CHECK.end();
    }

    private static void open() {
        CHECK.promise("7 open");
        TypingTutor tutor = Typing.withWords("ab", "cd", "ef", "gh", "ij", "kl", "mn");
        for (int words = 1; words <= 6; words++) {
            CHECK.is("open(" + words + ")", words, tutor.open(words));
            for (int index = 0; index < words; index++) {
                CHECK.is("lessonWord(" + index + ")", index, tutor.lessonWord(index));
            }
            CHECK.is("giveUp()", 2 * words, tutor.giveUp());
        }
        TypingTutor few = Typing.withWords("ab", "cd");
        CHECK.is("open(6) of two words", 2, few.open(6));
        CHECK.is("giveUp()", 4, few.giveUp());
        CHECK.is("open(2) of two words", 2, few.open(2));
    }

    private static void openRefuses() {
        CHECK.promise("7 open");
        TypingTutor tutor = new TypingTutor();
        CHECK.refuses("open(1) without words", STATE, tutor, () -> tutor.open(1));
        CHECK.refuses("open(0) without words", ARGUMENT, tutor, () -> tutor.open(0));
        tutor.addWord('a');
        checkOpenOfNoCount(tutor);
        tutor.open(1);
        CHECK.refuses("open(1) with one open", STATE, tutor, () -> tutor.open(1));
        checkOpenOfNoCount(tutor);
        CHECK.is("lessonWord(0) still", 0, tutor.lessonWord(0));
    }

    private static void checkOpenOfNoCount(TypingTutor tutor) {
        for (int words : new int[] {0, -1, 7, Integer.MIN_VALUE, Integer.MAX_VALUE}) {
            CHECK.refuses("open(" + words + ")", ARGUMENT, tutor, () -> tutor.open(words));
        }
    }

    private static void openTakesTheWeakest() {
        CHECK.promise("7 open");
        // one letter weighs 500, a pair that was never tried 700
        checkLesson("one letter and two", Typing.withWords("a", "bc", "de"), 3, 1, 2, 0);
        // ab is at 600, and weighs 400 then
        TypingTutor learned = Typing.withWords("ab", "xy", "c");
        Typing.lesson(learned, 0, "ab", 500);
        checkLesson("behind a lesson", learned, 3, 1, 2, 0);
        // ab had a mistake, and weighs 1000 - 375: less than what was never tried
        TypingTutor weak = Typing.withWords("xy", "ab", "c");
        Typing.lesson(weak, 1, "aqb", 500);
        checkLesson("behind a mistake", weak, 3, 0, 1, 2);
    }

    private static void openCountsRepeatedPairs() {
        CHECK.promise("7 open");
        // behind abc, ab weighs 700 - 150, dea 700
        checkLesson("repeated pairs", Typing.withWords("abc", "ab", "dea", "a"), 4, 0, 2, 1, 3);
        // behind ab, abab weighs 700 - 300, x 500
        checkLesson("each place", Typing.withWords("ab", "x", "abab"), 3, 0, 1, 2);
        // behind aaa, aaaa weighs 700 - 450, aa 550
        checkLesson("double letters", Typing.withWords("aaa", "aaaa", "aa", "b"), 4, 0, 2, 3, 1);
        // behind abababab, babababa weighs 700 - 1050: it is taken, as the last one
        checkLesson("below 0", Typing.withWords("abababab", "babababa", "b"), 3, 0, 2, 1);
        // the pair ba is not the pair ab
        checkLesson("turned pairs", Typing.withWords("ab", "ba", "abc"), 3, 0, 1, 2);
        // bc is no pair of ab and cd, that stand side by side in the lesson
        checkLesson("words' ends", Typing.withWords("ab", "cd", "bc", "abx"), 4, 0, 1, 2, 3);
        // a pair that two words of the lesson have costs no more than one
        checkLesson("costs once", Typing.withWords("abc", "dab", "abe", "x"), 4, 0, 1, 2, 3);
        // a word's last letter and its first make no pair, not even where all 8 bytes are taken
        checkLesson("eight letters", Typing.withWords("abcdefgh", "ha", "ij"), 3, 0, 1, 2);
        checkLesson("eight letters, turned", Typing.withWords("ha", "abcdefgh", "ij"), 3, 0, 1, 2);
        TypingTutor again = Typing.withWords("ab", "cd");
        again.openWord(0);
        again.giveUp();
        checkLesson("behind another lesson", again, 1, 0);
    }

    private static void openTakesTheFirstOfEqualOnes() {
        CHECK.promise("7 open");
        // x falls to 450, and weighs 550 then, as abc does behind ab
        TypingTutor first = Typing.withWords("x", "ab", "abc");
        Typing.lesson(first, 0, "x", 3500);
        checkLesson("equal ones", first, 3, 1, 0, 2);
        TypingTutor last = Typing.withWords("ab", "abc", "x");
        Typing.lesson(last, 2, "x", 3500);
        checkLesson("equal ones, turned", last, 3, 0, 1, 2);
    }

    private static void checkLesson(String call, TypingTutor tutor, int words, int... due) {
        CHECK.is("open, " + call, due.length, tutor.open(words));
        for (int index = 0; index < due.length; index++) {
            CHECK.is("lessonWord(" + index + "), " + call, due[index], tutor.lessonWord(index));
        }
    }

    private static void openWord() {
        CHECK.promise("8 openWord");
        TypingTutor tutor = Typing.withWords("the", "a", "abcdefgh");
        for (int number : new int[] {-1, 3, 40, Integer.MIN_VALUE, Integer.MAX_VALUE}) {
            CHECK.refuses("openWord(" + number + ")", INDEX, tutor, () -> tutor.openWord(number));
        }
        CHECK.is("openWord(0)", 3, tutor.openWord(0));
        CHECK.is("lessonWord(0)", 0, tutor.lessonWord(0));
        CHECK.refuses("openWord(1) with one open", STATE, tutor, () -> tutor.openWord(1));
        CHECK.refuses("openWord(3) with one open", INDEX, tutor, () -> tutor.openWord(3));
        tutor.giveUp();
        CHECK.is("openWord(1)", 1, tutor.openWord(1));
        CHECK.is("lessonWord(0)", 1, tutor.lessonWord(0));
        CHECK.refuses("lessonWord(1)", INDEX, tutor, () -> tutor.lessonWord(1));
        Typing.strike(tutor, "a", 1);
        CHECK.is("openWord(2)", 8, tutor.openWord(2));
        CHECK.is("lessonWord(0)", 2, tutor.lessonWord(0));
        CHECK.is("done()", 0, tutor.done());
    }

    private static void giveUp() {
        CHECK.promise("9 giveUp");
        TypingTutor tutor = Typing.withWords("the", "on");
        CHECK.refuses("giveUp() with none open", STATE, tutor, tutor::giveUp);
        tutor.open(2);
        CHECK.is("giveUp() at once", 5, tutor.giveUp());
        CHECK.is("isOpen()", false, tutor.isOpen());
        CHECK.refuses("giveUp() again", STATE, tutor, tutor::giveUp);
        tutor.open(2);
        Typing.strike(tutor, "thexxn", 500);
        CHECK.refuses("giveUp() finished", STATE, tutor, tutor::giveUp);
        CHECK.is("lessons()", 1, tutor.lessons());
    }

    private static void giveUpKeepsWhatWasLearned() {
        CHECK.promise("9 giveUp");
        TypingTutor tutor = Typing.withWords("the", "on");
        tutor.open(2);
        Typing.strike(tutor, "thx", 500);
        CHECK.is("giveUp() behind two letters", 3, tutor.giveUp());
        CHECK.is("lessons()", 0, tutor.lessons());
        CHECK.is("pace()", 100, tutor.pace());
        CHECK.is("accuracy()", 1.0, tutor.accuracy());
        CHECK.is("key(t, 2)", 600, tutor.key(Typing.key('t'), 2));
        CHECK.is("pair(t, h, 0)", 1, tutor.pair(Typing.key('t'), Typing.key('h'), 0));
        CHECK.is("key(e, 0)", 0, tutor.key(Typing.key('e'), 0));
        CHECK.is("mistakes(4)", 1, tutor.mistakes(4));
        // the mistake at e was left behind with its lesson, and the times too
        CHECK.same("one mistake in the next lesson", "4", Typing.lesson(tutor, 1, "x", 10));
        CHECK.is("done()", 0, tutor.done());
        Typing.strike(tutor, "on", 10);
        CHECK.is("lesson(0, 1)", 1, tutor.lesson(0, 1));
        CHECK.is("lesson(0, 2)", 30, tutor.lesson(0, 2));
    }

    private static void isOpen() {
        CHECK.promise("10 isOpen");
        TypingTutor tutor = Typing.withWords("ab");
        CHECK.is("isOpen() new", false, tutor.isOpen());
        tutor.open(1);
        CHECK.is("isOpen()", true, tutor.isOpen());
        Typing.strike(tutor, "a", 10);
        CHECK.is("isOpen() within", true, tutor.isOpen());
        Typing.strike(tutor, "x", 10);
        CHECK.is("isOpen() behind one mistake at the last letter", true, tutor.isOpen());
        Typing.strike(tutor, "x", 10);
        CHECK.is("isOpen() behind the second one", false, tutor.isOpen());
        tutor.openWord(0);
        CHECK.is("isOpen() again", true, tutor.isOpen());
        tutor.giveUp();
        CHECK.is("isOpen() given up", false, tutor.isOpen());
    }

    private static void lessonWord() {
        CHECK.promise("11 lessonWord");
        TypingTutor tutor = Typing.withWords("a", "bc", "d");
        for (int index : new int[] {0, -1, 6, Integer.MIN_VALUE, Integer.MAX_VALUE}) {
            CHECK.refuses("lessonWord(" + index + ") with none open", STATE, tutor,
                () -> tutor.lessonWord(index));
        }
        tutor.open(2);
        CHECK.is("lessonWord(0)", 1, tutor.lessonWord(0));
        CHECK.is("lessonWord(1)", 0, tutor.lessonWord(1));
        for (int index : new int[] {-1, 2, 6, Integer.MIN_VALUE, Integer.MAX_VALUE}) {
            CHECK.refuses("lessonWord(" + index + ")", INDEX, tutor, () -> tutor.lessonWord(index));
        }
        Typing.strike(tutor, "bc", 10);
        CHECK.is("lessonWord(0) behind that word", 1, tutor.lessonWord(0));
        Typing.strike(tutor, "a", 10);
        CHECK.refuses("lessonWord(0) finished", STATE, tutor, () -> tutor.lessonWord(0));
    }

    private static void wanted() {
        CHECK.promise("12 wanted");
        TypingTutor tutor = Typing.withWords("az", "m");
        CHECK.refuses("wanted() with none open", STATE, tutor, tutor::wanted);
        tutor.open(2);
        CHECK.is("wanted()", 0, tutor.wanted());
        Typing.strike(tutor, "a", 10);
        CHECK.is("wanted() behind a right one", 25, tutor.wanted());
        Typing.strike(tutor, "p", 10);
        CHECK.is("wanted() behind a mistake", 25, tutor.wanted());
        Typing.strike(tutor, "p", 10);
        CHECK.is("wanted() in the next word", 12, tutor.wanted());
        Typing.strike(tutor, "m", 10);
        CHECK.refuses("wanted() finished", STATE, tutor, tutor::wanted);
    }

    private static void done() {
        CHECK.promise("13 done");
        TypingTutor tutor = Typing.withWords("az", "m");
        CHECK.refuses("done() with none open", STATE, tutor, tutor::done);
        tutor.open(2);
        CHECK.is("done()", 0, tutor.done());
        Typing.strike(tutor, "a", 10);
        CHECK.is("done() behind a right one", 1, tutor.done());
        Typing.strike(tutor, "q", 10);
        CHECK.is("done() behind a mistake", 1, tutor.done());
        Typing.strike(tutor, "q", 10);
        CHECK.is("done() passed over", 2, tutor.done());
        Typing.strike(tutor, "m", 10);
        CHECK.refuses("done() finished", STATE, tutor, tutor::done);
    }

    private static void strikeTellsKinds() {
        CHECK.promise("14 strike");
        TypingTutor tutor = Typing.withWords("the");
        tutor.openWord(0);
        CHECK.same("right", "0", Typing.strike(tutor, "t", 1));
        CHECK.same("the letter behind", "1", Typing.strike(tutor, "e", 5000));
        CHECK.same("right behind a mistake", "0", Typing.strike(tutor, "h", 10));
        CHECK.same("the letter ahead", "2", Typing.strike(tutor, "h", 10));
        CHECK.same("two letters ahead", "4", Typing.strike(tutor, "t", 10));
        tutor.openWord(0);
        CHECK.same("a neighbour in the row", "3", Typing.strike(tutor, "r", 10));
        CHECK.same("a neighbour below", "3", Typing.strike(tutor, "f", 10));
        CHECK.same("two letters behind", "0", Typing.strike(tutor, "h", 10));
        CHECK.same("another", "4", Typing.strike(tutor, "q", 10));
        CHECK.same("right", "0", Typing.strike(tutor, "e", 10));
        CHECK.is("isOpen()", false, tutor.isOpen());
    }

    private static void strikeKeepsToTheWord() {
        CHECK.promise("14 strike");
        TypingTutor tutor = Typing.withWords("am", "zo");
        tutor.open(2);
        CHECK.same("at m, z is in the next word", "04", Typing.strike(tutor, "az", 10));
        CHECK.same("at z, m is in the last word", "04", Typing.strike(tutor, "mm", 10));
        CHECK.same("at z, o is behind it", "1", Typing.strike(tutor, "o", 10));
        CHECK.same("at o, z is ahead of it", "2", Typing.strike(tutor, "z", 10));
        CHECK.same("the end", "0", Typing.strike(tutor, "o", 10));
        CHECK.is("isOpen()", false, tutor.isOpen());
        CHECK.is("pair(m, z, 0)", 0, tutor.pair(Typing.key('m'), Typing.key('z'), 0));
    }

    private static void strikeTakesTheFirstKind() {
        CHECK.promise("14 strike");
        TypingTutor tutor = Typing.withWords("pop", "po", "aab");
        CHECK.same("behind, ahead and near", "01", Typing.lesson(tutor, 0, "pp", 10));
        tutor.giveUp();
        CHECK.same("ahead and near", "02", Typing.lesson(tutor, 1, "pp", 10));
        tutor.giveUp();
        CHECK.same("behind and near", "1", Typing.lesson(tutor, 1, "o", 10));
        tutor.giveUp();
        // the letters behind and ahead are the wanted one itself here: right
        CHECK.same("double letters", "00", Typing.lesson(tutor, 2, "aa", 10));
        CHECK.same("ahead", "2", Typing.strike(tutor, "a", 10));
        CHECK.is("mistakes(1)", 2, tutor.mistakes(1));
        CHECK.is("mistakes(2)", 2, tutor.mistakes(2));
        CHECK.is("mistakes(3)", 0, tutor.mistakes(3));
        CHECK.is("mistakes(4)", 0, tutor.mistakes(4));
    }

    private static void strikePassesOver() {
        CHECK.promise("14 strike");
        TypingTutor tutor = Typing.withWords("abc");
        CHECK.same("two mistakes", "14", Typing.lesson(tutor, 0, "bp", 100));
        CHECK.is("wanted()", 1, tutor.wanted());
        // the count starts anew at each letter
        CHECK.same("one mistake", "4", Typing.strike(tutor, "p", 100));
        CHECK.is("wanted()", 1, tutor.wanted());
        CHECK.same("right, then one mistake", "02", Typing.strike(tutor, "bb", 100));
        CHECK.is("wanted()", 2, tutor.wanted());
        CHECK.same("the second one", "2", Typing.strike(tutor, "b", 100));
        CHECK.is("isOpen()", false, tutor.isOpen());
        CHECK.is("lesson(0, 0)", 3, tutor.lesson(0, 0));
        CHECK.is("lesson(0, 1)", 0, tutor.lesson(0, 1));
        CHECK.is("lesson(0, 2)", 600, tutor.lesson(0, 2));
        for (int key = 0; key < 3; key++) {
            CHECK.is("key(" + key + ", 0)", 1, tutor.key(key, 0));
            CHECK.is("key(" + key + ", 1)", 1, tutor.key(key, 1));
        }
    }

    private static void strikeRefuses() {
        CHECK.promise("14 strike");
        TypingTutor tutor = Typing.withWords("abc");
        checkStrikeOfNoKeyOrTime(tutor);
        CHECK.refuses("strike with none open", STATE, tutor, () -> tutor.strike(0, 10));
        tutor.openWord(0);
        checkStrikeOfNoKeyOrTime(tutor);
        Typing.strike(tutor, "abc", 10);
        CHECK.refuses("strike finished", STATE, tutor, () -> tutor.strike(0, 10));
    }

    private static void checkStrikeOfNoKeyOrTime(TypingTutor tutor) {
        for (int key : new int[] {-1, 26, 97, Integer.MIN_VALUE, Integer.MAX_VALUE}) {
            CHECK.refuses("strike(" + key + ", 10)", INDEX, tutor, () -> tutor.strike(key, 10));
            CHECK.refuses("strike(" + key + ", 0)", INDEX, tutor, () -> tutor.strike(key, 0));
        }
        for (int time : new int[] {0, -1, 5001, Integer.MIN_VALUE, Integer.MAX_VALUE}) {
            CHECK.refuses("strike(0, " + time + ")", ARGUMENT, tutor, () -> tutor.strike(0, time));
        }
    }

    private static void strikeRefusedCountsNothing() {
        CHECK.promise("14 strike");
        TypingTutor tutor = Typing.withWords("abc");
        tutor.openWord(0);
        CHECK.refuses("strike(26, 10)", INDEX, tutor, () -> tutor.strike(26, 10));
        CHECK.refuses("strike(15, 5001)", ARGUMENT, tutor, () -> tutor.strike(15, 5001));
        CHECK.same("one mistake", "4", Typing.strike(tutor, "p", 10));
        CHECK.is("wanted()", 0, tutor.wanted());
        CHECK.same("to the end", "000", Typing.strike(tutor, "abc", 10));
        CHECK.is("lesson(0, 1)", 2, tutor.lesson(0, 1));
        CHECK.is("lesson(0, 2)", 40, tutor.lesson(0, 2));
    }
}
