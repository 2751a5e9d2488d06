import java.util.function.Supplier;
import java.util.function.ToLongFunction;

/**
 * The edges that the document names for lessons and the making of lessons, and in promises 7 to 13:
 * a test for each sentence, under its words.
 */
public final class LessonEdgesTest {
    private static final Class<IllegalArgumentException> ARGUMENT = IllegalArgumentException.class;
    private static final Class<IllegalStateException> STATE = IllegalStateException.class;
    private static final Class<IndexOutOfBoundsException> INDEX = IndexOutOfBoundsException.class;

    private static final int[] NO_COUNTS = {0, 7, -1, -6, 40, Integer.MIN_VALUE,
        Integer.MAX_VALUE};

    private static final Check CHECK = new Check("LessonEdgesTest");

    public static void main(String[] args) {
        atMost6Words();
        noneLeft();
        noNumberOfWords();
        openWithALessonOpen();
        openWithoutWords();
        openNamesTheCountFirst();
        smallestNumberOfSeveral();
        greatestWeight();
        notInItYet();
        pairCosts150();
        eachPlaceCosts();
        costsOnceForSeveralWords();
        pairsOfTheWordItselfCostNothing();
        pairsOfLaterWordsCost();
        pairsOfAnOldLessonCostNothing();
        pairsAcrossWordsCostNothing();
        pairOfTheLastKeys();
        lastAndFirstLetterAreNoPair();
        weightBelow0();
        wordsAddedWithinALesson();
        openWordTakesAnyWord();
        openWordOfNoWord();
        openWordWithALessonOpen();
        openWordNamesTheNumberFirst();
        openWordLeavesTheOldLesson();
        giveUpCountsLetters();
        giveUpStaysOutOfTheHistory();
        giveUpKeepsWhatWasLearned();
        giveUpForgetsTheMistakeAtTheLetter();
        noLessonIsOpen();
        isOpenToTheLastLetter();
        noSuchIndex();
        lessonWordNamesTheLessonFirst();
        wantedFromFirstToLast();
        doneFrom0();
        CHECK.end();
    }

    /** Six words of eight letters; no pair is in two of them. */
    private static TypingTutor longest() {
        return Typing.withWords("abcdefgh", "ijklmnop", "qrstuvwx", "yzacegik", "hgfedcba",
            "ponmlkji");
    }

    private static TypingTutor opened(String... words) {
        TypingTutor tutor = Typing.withWords(words);
        tutor.open(6);
        return tutor;
    }

    private static void checkLesson(TypingTutor tutor, int words, int... due) {
        CHECK.is("open(" + words + ")", due.length, tutor.open(words));
        for (int index = 0; index < due.length; index++) {
            CHECK.is("lessonWord(" + index + ")", due[index], tutor.lessonWord(index));
        }
    }

    // ---- promise 7

    private static void atMost6Words() {
        CHECK.promise("a lesson is a row of at most 6 words");
        TypingTutor tutor = Typing.withFirstOf40(40);
        CHECK.is("open(6) of 40 words", 6, tutor.open(6));
        CHECK.is("lessonWord(5)", 5, tutor.lessonWord(5));
        CHECK.refuses("lessonWord(6)", INDEX, tutor, () -> tutor.lessonWord(6));
        CHECK.refused("open(7) of 40 words", ARGUMENT, () -> Typing.withFirstOf40(40),
            full -> full.open(7));
    }

    private static void noneLeft() {
        CHECK.promise("if there is none left, the lesson has fewer words");
        for (int count = 1; count <= 8; count++) {
            for (int words = 1; words <= 6; words++) {
                TypingTutor tutor = Typing.withFirstOf40(count);
                int due = Math.min(words, count);
                CHECK.is("open(" + words + ") of " + count, due, tutor.open(words));
                CHECK.is("lessonWord(" + (due - 1) + ")", due - 1, tutor.lessonWord(due - 1));
                CHECK.refuses("lessonWord(" + due + ")", INDEX, tutor, () -> tutor.lessonWord(due));
                CHECK.is("giveUp()", 2 * due, tutor.giveUp());
            }
        }
    }

    private static void noNumberOfWords() {
        CHECK.promise("7: IllegalArgumentException if words is not 1 to 6");
        CHECK.is("open(1)", 1, Typing.withFirstOf40(7).open(1));
        CHECK.is("open(6)", 6, Typing.withFirstOf40(7).open(6));
        for (int words : NO_COUNTS) {
            CHECK.refused("open(" + words + ")", ARGUMENT, () -> Typing.withFirstOf40(7),
                tutor -> tutor.open(words));
        }
    }

    private static void openWithALessonOpen() {
        CHECK.promise("7: IllegalStateException if a lesson is open");
        CHECK.refused("open(1)", STATE, () -> opened("ab", "c"), tutor -> tutor.open(1));
        CHECK.refused("open(6)", STATE, () -> opened("ab", "c"), tutor -> tutor.open(6));
        CHECK.refused("open(1) behind openWord", STATE, () -> {
            TypingTutor tutor = Typing.withWords("ab", "c");
            Typing.lesson(tutor, 0, "aq", 100);
            return tutor;
        }, tutor -> tutor.open(1));
        TypingTutor over = opened("ab");
        Typing.strike(over, "ab", 100);
        CHECK.is("open(1) behind the end", 1, over.open(1));
        over.giveUp();
        CHECK.is("open(1) behind giveUp", 1, over.open(1));
    }

    private static void openWithoutWords() {
        CHECK.promise("7: IllegalStateException if there are no words in the list");
        CHECK.refused("open(1)", STATE, TypingTutor::new, tutor -> tutor.open(1));
        CHECK.refused("open(6)", STATE, TypingTutor::new, tutor -> tutor.open(6));
        CHECK.is("isOpen() behind it", false, behindRefusedOpen().isOpen());
        CHECK.is("open(6) with one word", 1, Typing.withWords("a").open(6));
    }

    private static TypingTutor behindRefusedOpen() {
        TypingTutor tutor = new TypingTutor();
        CHECK.refuses("open(1)", STATE, tutor, () -> tutor.open(1));
        return tutor;
    }

    private static void openNamesTheCountFirst() {
        CHECK.promise("7: of several exceptions the one that is named first");
        for (int words : NO_COUNTS) {
            CHECK.refused("open(" + words + ") without words", ARGUMENT, TypingTutor::new,
                tutor -> tutor.open(words));
            CHECK.refused("open(" + words + ") with one open", ARGUMENT, () -> opened("ab", "c"),
                tutor -> tutor.open(words));
        }
    }

    // ---- making lessons

    private static void smallestNumberOfSeveral() {
        CHECK.promise("of several the one with the smallest number");
        checkLesson(Typing.withFirstOf40(40), 6, 0, 1, 2, 3, 4, 5);
        checkLesson(Typing.withWords("z", "y", "x", "a"), 3, 0, 1, 2);
        checkLesson(Typing.withWords("z", "yx", "xw", "a"), 4, 1, 2, 0, 3);
    }

    /** A tutor whose word 0, "x", weighs this much: 500 and a quarter of the way to the goal. */
    private static TypingTutor withWeightOfX(int weight, int time, String... others) {
        String[] words = new String[others.length + 1];
        words[0] = "x";
        System.arraycopy(others, 0, words, 1, others.length);
        TypingTutor tutor = Typing.withWords(words);
        Typing.lesson(tutor, 0, "x", time);
        CHECK.is("weight(x)", weight, tutor.weight(0));
        return tutor;
    }

    private static void greatestWeight() {
        CHECK.promise("the one is taken for which its weight is greatest");
        // y weighs 500; x 499, 500 and 501
        checkLesson(withWeightOfX(499, 2480, "y"), 2, 1, 0);
        checkLesson(withWeightOfX(500, 2500, "y"), 2, 0, 1);
        checkLesson(withWeightOfX(501, 2520, "y"), 2, 0, 1);
        // all of the 40 but the last one were typed well
        TypingTutor tutor = Typing.withFirstOf40(40);
        for (int number = 0; number < 39; number++) {
            tutor.openWord(number);
            Typing.typeUpTo(tutor, 2, 500);
        }
        checkLesson(tutor, 2, 39, 0);
        TypingTutor last = new TypingTutor();
        for (int i = 0; i < 26; i++) {
            last.addWord('a' + i);
        }
        last.addWord(Typing.number("zz"));
        checkLesson(last, 3, 26, 0, 1);
    }

    private static void notInItYet() {
        CHECK.promise("of the words of the list that are not in it yet");
        // the dearest word is not taken a second time, whatever the rest weigh
        checkLesson(Typing.withWords("ab", "c"), 6, 0, 1);
        checkLesson(Typing.withWords("c", "ab"), 2, 1, 0);
        checkLesson(Typing.withWords("a"), 6, 0);
    }

    private static void pairCosts150() {
        CHECK.promise("its weight, minus 150 for each pair of it that some word in the lesson has"
            + " already");
        // behind ab, abc weighs 700 - 150; x 549, 550 and 551, before abc in the list and behind
        checkLesson(withWeightOfX(549, 3480, "ab", "abc"), 3, 1, 2, 0);
        checkLesson(withWeightOfX(550, 3500, "ab", "abc"), 3, 1, 0, 2);
        checkLesson(withWeightOfX(551, 3520, "ab", "abc"), 3, 1, 0, 2);
        TypingTutor behind = Typing.withWords("ab", "abc", "x");
        Typing.lesson(behind, 2, "x", 3500);
        checkLesson(behind, 3, 0, 1, 2);
        TypingTutor more = Typing.withWords("ab", "abc", "x");
        Typing.lesson(more, 2, "x", 3520);
        checkLesson(more, 3, 0, 2, 1);
    }

    private static void eachPlaceCosts() {
        CHECK.promise("minus 150 for each pair of it .. (each place counted)");
        // behind ab, abab weighs 700 - 2 * 150 (ba is not there); x 399, 400 and 401
        checkLesson(withWeightOfX(399, 480, "ab", "abab"), 3, 1, 2, 0);
        checkLesson(withWeightOfX(400, 500, "ab", "abab"), 3, 1, 0, 2);
        checkLesson(withWeightOfX(401, 520, "ab", "abab"), 3, 1, 0, 2);
    }

    private static void costsOnceForSeveralWords() {
        CHECK.promise("each pair of it that some word in the lesson has (however many have it)");
        // behind abc and dab, abe weighs 700 - 150 and no less; x 549, 550
        checkLesson(withWeightOfX(549, 3480, "abc", "dab", "abe"), 4, 1, 2, 3, 0);
        checkLesson(withWeightOfX(500, 2500, "abab", "abe"), 3, 1, 2, 0);
    }

    private static void pairsOfTheWordItselfCostNothing() {
        CHECK.promise("each pair of it that some word in the lesson has already (not itself)");
        checkLesson(Typing.withWords("ababab", "cd"), 2, 0, 1);
        checkLesson(Typing.withWords("cd", "ee", "abab"), 3, 0, 1, 2);
    }

    private static void pairsOfLaterWordsCost() {
        CHECK.promise("each pair of it that some word in the lesson has already (any word)");
        // cd has none of the first word's pairs; the third has one of the second's
        checkLesson(Typing.withWords("ab", "cd", "cde", "fg"), 4, 0, 1, 3, 2);
        // six words: the last one is held against all five
        checkLesson(Typing.withWords("ab", "cd", "ef", "gh", "ij", "ijk", "a"), 6,
            0, 1, 2, 3, 4, 5);
        checkLesson(Typing.withWords("ab", "cd", "ef", "gh", "ijk", "hgh", "ba"), 6,
            0, 1, 2, 3, 4, 6);
    }

    private static void pairsOfAnOldLessonCostNothing() {
        CHECK.promise("some word in the lesson has already (not in the one before)");
        TypingTutor tutor = Typing.withWords("abc", "abd", "efg");
        tutor.openWord(0);
        tutor.giveUp();
        checkLesson(tutor, 3, 0, 2, 1);
        tutor.giveUp();
        checkLesson(tutor, 3, 0, 2, 1);
    }

    private static void pairsAcrossWordsCostNothing() {
        CHECK.promise("each pair of it (of one word)");
        checkLesson(Typing.withWords("ab", "cd", "bc", "da", "abc"), 5, 0, 1, 2, 3, 4);
    }

    private static void pairOfTheLastKeys() {
        CHECK.promise("each pair of it (the first keys and the last ones)");
        checkLesson(Typing.withWords("zz", "zzy", "b", "cc"), 4, 0, 3, 1, 2);
        checkLesson(Typing.withWords("aa", "aab", "d", "cc"), 4, 0, 3, 1, 2);
        checkLesson(Typing.withWords("az", "azb", "d", "cc"), 4, 0, 3, 1, 2);
        checkLesson(Typing.withWords("za", "zab", "d", "cc"), 4, 0, 3, 1, 2);
    }

    private static void lastAndFirstLetterAreNoPair() {
        CHECK.promise("each pair of it (keys that follow each other; a word does not wrap around)");
        for (int letters = 2; letters <= 8; letters++) {
            String word = "abcdefgh".substring(0, letters);
            String turned = "" + word.charAt(letters - 1) + 'a';
            checkLesson(Typing.withWords(word, turned, "yz"), 3, 0, 1, 2);
            checkLesson(Typing.withWords(turned, word, "yz"), 3, 0, 1, 2);
        }
    }

    private static void weightBelow0() {
        CHECK.promise("the one is taken .. (below 0 too)");
        // 700 - 7 * 150 = -350 behind abababab; the other has one pair less there
        checkLesson(Typing.withWords("abababab", "babababa"), 2, 0, 1);
        checkLesson(Typing.withWords("abababab", "babababa", "bababab"), 3, 0, 2, 1);
        checkLesson(Typing.withWords("abababab", "bababab", "babababa"), 3, 0, 1, 2);
    }

    private static void wordsAddedWithinALesson() {
        CHECK.promise("a lesson of words that are chosen (when it is opened)");
        TypingTutor tutor = opened("ab");
        CHECK.is("addWord(cd)", 1, tutor.addWord(Typing.number("cd")));
        CHECK.refuses("lessonWord(1)", INDEX, tutor, () -> tutor.lessonWord(1));
        Typing.strike(tutor, "ab", 100);
        CHECK.is("isOpen() behind its one word", false, tutor.isOpen());
        checkLesson(tutor, 6, 1, 0);
    }

    // ---- promise 8

    private static void openWordTakesAnyWord() {
        CHECK.promise("8: returns how many letters it has");
        for (int number : new int[] {0, 1, 38, 39}) {
            TypingTutor tutor = Typing.withFirstOf40(40);
            CHECK.is("openWord(" + number + ")", 2, tutor.openWord(number));
            CHECK.is("lessonWord(0)", number, tutor.lessonWord(0));
            CHECK.is("isOpen()", true, tutor.isOpen());
        }
        for (int letters = 1; letters <= 8; letters++) {
            CHECK.is("openWord(0) of " + letters + " letters", letters,
                Typing.withWords("abcdefgh".substring(0, letters)).openWord(0));
        }
    }

    private static void openWordOfNoWord() {
        CHECK.promise("8: IndexOutOfBoundsException if there is no such word");
        for (int count : new int[] {0, 1, 39, 40}) {
            for (int number : new int[] {count, -1, 41, Integer.MIN_VALUE, Integer.MAX_VALUE}) {
                CHECK.refused("openWord(" + number + ") of " + count, INDEX,
                    () -> Typing.withFirstOf40(count), tutor -> tutor.openWord(number));
            }
        }
    }

    private static void openWordWithALessonOpen() {
        CHECK.promise("8: IllegalStateException if a lesson is open");
        CHECK.refused("openWord(0)", STATE, () -> opened("ab", "c"), tutor -> tutor.openWord(0));
        CHECK.refused("openWord(1)", STATE, () -> opened("ab", "c"), tutor -> tutor.openWord(1));
        CHECK.refused("openWord(1) within openWord(0)", STATE, () -> {
            TypingTutor tutor = Typing.withWords("ab", "c");
            Typing.lesson(tutor, 0, "aq", 100);
            return tutor;
        }, tutor -> tutor.openWord(1));
        TypingTutor over = opened("ab");
        Typing.strike(over, "ab", 100);
        CHECK.is("openWord(0) behind the end", 2, over.openWord(0));
        over.giveUp();
        CHECK.is("openWord(0) behind giveUp", 2, over.openWord(0));
    }

    private static void openWordNamesTheNumberFirst() {
        CHECK.promise("8: of several exceptions the one that is named first");
        for (int number : new int[] {-1, 2, 40, Integer.MIN_VALUE, Integer.MAX_VALUE}) {
            CHECK.refused("openWord(" + number + ") with one open", INDEX,
                () -> opened("ab", "c"), tutor -> tutor.openWord(number));
        }
    }

    private static void openWordLeavesTheOldLesson() {
        CHECK.promise("8: opens a lesson of one word (nothing of the last one is in it)");
        TypingTutor tutor = longest();
        tutor.open(6);
        Typing.typeUpTo(tutor, 30, 5000);
        tutor.giveUp();
        CHECK.is("openWord(5)", 8, tutor.openWord(5));
        CHECK.is("done()", 0, tutor.done());
        CHECK.is("wanted()", Typing.key('p'), tutor.wanted());
        CHECK.refuses("lessonWord(1)", INDEX, tutor, () -> tutor.lessonWord(1));
        Typing.typeUpTo(tutor, 8, 1);
        CHECK.is("isOpen()", false, tutor.isOpen());
        CHECK.is("lesson(0, 0)", 8, tutor.lesson(0, 0));
        CHECK.is("lesson(0, 1)", 8, tutor.lesson(0, 1));
        CHECK.is("lesson(0, 2)", 8, tutor.lesson(0, 2));
    }

    // ---- promise 9

    private static void giveUpCountsLetters() {
        CHECK.promise("9: returns how many letters of it were not tried");
        for (int tried : new int[] {0, 1, 7, 8, 9, 47}) {
            TypingTutor tutor = longest();
            tutor.open(6);
            Typing.typeUpTo(tutor, tried, 10);
            CHECK.is("giveUp() behind " + tried, 48 - tried, tutor.giveUp());
        }
        TypingTutor one = Typing.withWords("a");
        one.openWord(0);
        CHECK.is("giveUp() of one letter", 1, one.giveUp());
        Typing.lesson(one, 0, "q", 10);
        CHECK.is("giveUp() behind one mistake: not tried", 1, one.giveUp());
        TypingTutor two = Typing.withWords("ab");
        Typing.lesson(two, 0, "pp", 10);
        CHECK.is("giveUp() behind a letter that was passed over", 1, two.giveUp());
    }

    private static void giveUpStaysOutOfTheHistory() {
        CHECK.promise("9: it does not come into the history");
        TypingTutor tutor = Typing.withWords("ab");
        Typing.lesson(tutor, 0, "ab", 100);
        Typing.lesson(tutor, 0, "pp", 100);
        tutor.giveUp();
        CHECK.is("lessons()", 1, tutor.lessons());
        CHECK.is("pace()", 106, tutor.pace());
        CHECK.is("accuracy()", 1.0, tutor.accuracy());
        CHECK.refuses("lesson(1, 0)", INDEX, tutor, () -> tutor.lesson(1, 0));
        TypingTutor six = Typing.withWords("ab");
        for (int i = 0; i < 6; i++) {
            six.openWord(0);
            six.giveUp();
        }
        CHECK.is("lessons() behind six given up", 0, six.lessons());
        CHECK.is("isPlateau() behind six given up", false, six.isPlateau());
    }

    private static void giveUpKeepsWhatWasLearned() {
        CHECK.promise("9: but what was learned of keys and pairs stays");
        TypingTutor tutor = Typing.withWords("abc");
        Typing.lesson(tutor, 0, "abx", 1);
        tutor.giveUp();
        CHECK.is("key(0, 2)", 625, tutor.key(0, 2));
        CHECK.is("key(1, 0)", 1, tutor.key(1, 0));
        CHECK.is("key(2, 0)", 0, tutor.key(2, 0));
        CHECK.is("pair(0, 1, 2)", 625, tutor.pair(0, 1, 2));
        CHECK.is("pair(1, 2, 0)", 0, tutor.pair(1, 2, 0));
        CHECK.is("mistakes(3)", 1, tutor.mistakes(3));
    }

    private static void giveUpForgetsTheMistakeAtTheLetter() {
        CHECK.promise("9: closes the lesson that is open");
        TypingTutor tutor = Typing.withWords("a");
        Typing.lesson(tutor, 0, "p", 1000);
        tutor.giveUp();
        Typing.lesson(tutor, 0, "p", 10);
        CHECK.is("isOpen() behind a mistake in each of two lessons", true, tutor.isOpen());
        tutor.giveUp();
        Typing.lesson(tutor, 0, "a", 1);
        CHECK.is("lesson(0, 1)", 1, tutor.lesson(0, 1));
        CHECK.is("lesson(0, 2)", 1, tutor.lesson(0, 2));
        CHECK.is("key(0, 1)", 0, tutor.key(0, 1));
    }

    // ---- promises 9 to 14, without a lesson

    private static void noLessonIsOpen() {
        checkNoLesson("a new tutor", TypingTutor::new);
        checkNoLesson("words alone", () -> Typing.withWords("ab", "c"));
        checkNoLesson("a lesson given up", () -> {
            TypingTutor tutor = opened("ab", "c");
            tutor.strike(0, 10);
            tutor.giveUp();
            return tutor;
        });
        checkNoLesson("a lesson typed", () -> {
            TypingTutor tutor = opened("ab", "c");
            Typing.strike(tutor, "abc", 10);
            return tutor;
        });
        checkNoLesson("a lesson passed over", () -> {
            TypingTutor tutor = opened("ab", "c");
            Typing.strike(tutor, "abpp", 10);
            return tutor;
        });
    }

    private static void checkNoLesson(String title, Supplier<TypingTutor> past) {
        CHECK.promise("9 to 14: IllegalStateException if no lesson is open, behind " + title);
        CHECK.is("isOpen()", false, past.get().isOpen());
        checkState("giveUp()", past, TypingTutor::giveUp);
        checkState("lessonWord(0)", past, tutor -> tutor.lessonWord(0));
        checkState("wanted()", past, TypingTutor::wanted);
        checkState("done()", past, TypingTutor::done);
        checkState("strike(0, 1)", past, tutor -> tutor.strike(0, 1));
        checkState("strike(25, 5000)", past, tutor -> tutor.strike(25, 5000));
    }

    private static void checkState(String call, Supplier<TypingTutor> past,
            ToLongFunction<TypingTutor> made) {
        CHECK.refused(call, STATE, past, made);
    }

    // ---- promises 10 to 13

    private static void isOpenToTheLastLetter() {
        CHECK.promise("10: returns whether a lesson is open");
        TypingTutor tutor = longest();
        CHECK.is("isOpen() before", false, tutor.isOpen());
        tutor.open(6);
        for (int tried = 0; tried < 48; tried++) {
            CHECK.is("isOpen() behind " + tried, true, tutor.isOpen());
            tutor.strike(tutor.wanted(), 10);
        }
        CHECK.is("isOpen() behind 48", false, tutor.isOpen());
    }

    private static void noSuchIndex() {
        CHECK.promise("11: IndexOutOfBoundsException if there is no such index");
        for (int count = 1; count <= 6; count++) {
            int words = count;
            Supplier<TypingTutor> past = () -> {
                TypingTutor tutor = Typing.withFirstOf40(8);
                tutor.open(words);
                return tutor;
            };
            CHECK.is("lessonWord(0)", 0, past.get().lessonWord(0));
            CHECK.is("lessonWord(" + (words - 1) + ")", words - 1,
                past.get().lessonWord(words - 1));
            for (int index : new int[] {words, -1, 7, Integer.MIN_VALUE, Integer.MAX_VALUE}) {
                CHECK.refused("lessonWord(" + index + ") of " + words, INDEX, past,
                    tutor -> tutor.lessonWord(index));
            }
        }
        CHECK.refused("lessonWord(1) of openWord", INDEX, () -> {
            TypingTutor tutor = longest();
            tutor.open(6);
            tutor.giveUp();
            tutor.openWord(0);
            return tutor;
        }, tutor -> tutor.lessonWord(1));
    }

    private static void lessonWordNamesTheLessonFirst() {
        CHECK.promise("11: of several exceptions the one that is named first");
        for (int index : new int[] {-1, 1, 6, Integer.MIN_VALUE, Integer.MAX_VALUE}) {
            CHECK.refused("lessonWord(" + index + ") of a new tutor", STATE, TypingTutor::new,
                tutor -> tutor.lessonWord(index));
            CHECK.refused("lessonWord(" + index + ") of words alone", STATE,
                () -> Typing.withWords("ab"), tutor -> tutor.lessonWord(index));
        }
    }

    private static void wantedFromFirstToLast() {
        CHECK.promise("12: returns the letter that is wanted; between words nothing is typed");
        String letters = "abcdefghijklmnopqrstuvwxyzacegikhgfedcbaponmlkji";
        TypingTutor tutor = longest();
        tutor.open(6);
        for (char letter : letters.toCharArray()) {
            CHECK.is("wanted()", Typing.key(letter), tutor.wanted());
            CHECK.is("strike(" + letter + ")", 0, tutor.strike(Typing.key(letter), 10));
        }
        CHECK.is("isOpen()", false, tutor.isOpen());
        TypingTutor ends = Typing.withWords("z", "a");
        ends.open(2);
        CHECK.is("wanted() at z", 25, ends.wanted());
        ends.strike(25, 10);
        CHECK.is("wanted() at a", 0, ends.wanted());
    }

    private static void doneFrom0() {
        CHECK.promise("13: returns how many letters of the lesson were tried");
        TypingTutor tutor = longest();
        tutor.open(6);
        for (int tried = 0; tried < 48; tried++) {
            CHECK.is("done()", tried, tutor.done());
            int wanted = tutor.wanted();
            tutor.strike((wanted + 13) % 26, 10);
            CHECK.is("done() behind one mistake", tried, tutor.done());
            // each second letter is passed over
            tutor.strike(tried % 2 == 0 ? wanted : (wanted + 13) % 26, 10);
        }
        CHECK.is("lesson(0, 0)", 48, tutor.lesson(0, 0));
        tutor.openWord(0);
        CHECK.is("done() in the next lesson", 0, tutor.done());
    }
}
