import java.util.function.Supplier;

/**
 * The edges that the document names for strokes and kinds of mistakes, and in promises 14 and 18: a
 * test for each sentence, under its words.
 */
public final class StrokeEdgesTest {
    private static final Class<IllegalArgumentException> ARGUMENT = IllegalArgumentException.class;
    private static final Class<IllegalStateException> STATE = IllegalStateException.class;
    private static final Class<IndexOutOfBoundsException> INDEX = IndexOutOfBoundsException.class;

    private static final int[] NO_KEYS = {-1, 26, -26, 97, 256, Integer.MIN_VALUE,
        Integer.MAX_VALUE};
    private static final int[] NO_TIMES = {0, -1, 5001, -5000, 10000, Integer.MIN_VALUE,
        Integer.MAX_VALUE};

    /** Letters of which none is a neighbour of the next two, or of the last one. */
    private static final String EIGHT = "bpamtcoz";

    private static final Check CHECK = new Check("StrokeEdgesTest");

    public static void main(String[] args) {
        shortestAndLongestTime();
        noTime();
        noKey();
        noLesson();
        firstNamedFirst();
        rightMeansTheNextLetter();
        swapAtEachPlace();
        swapNotAtTheLastLetter();
        swapNotInTheNextWord();
        swapIsNotTheWantedLetter();
        doubleAtEachPlace();
        doubleNotAtTheFirstLetter();
        doubleNotInTheWordBefore();
        nearIsANeighbour();
        otherIsTheRest();
        swapBeforeAllOthers();
        doubleBeforeNear();
        mistakeKeepsTheLetter();
        secondMistakePassesOver();
        secondMistakeOfAnyKind();
        countStartsAnewAtEachLetter();
        countStartsAnewInEachLesson();
        passedOverIntoTheNextWord();
        finishedByTheLastStroke();
        finishedByPassingOver();
        notFinishedByOneMistake();
        oneLetterAndLongestLesson();
        everyWordOfTheLongestLesson();
        refusedStrokesAreNoMistakes();
        mistakesOfEachKind();
        mistakesOfNoKind();
        CHECK.end();
    }

    private static TypingTutor at(int letters, String... words) {
        TypingTutor tutor = Typing.withWords(words);
        tutor.open(6);
        Typing.typeUpTo(tutor, letters, 100);
        return tutor;
    }

    private static int kindAt(int letters, String word, char key) {
        return at(letters, word).strike(Typing.key(key), 100);
    }

    // ---- what is refused

    private static void shortestAndLongestTime() {
        CHECK.promise("a time, the milliseconds since the stroke before it, 1 to 5000");
        for (int time : new int[] {1, 2, 4999, 5000}) {
            TypingTutor tutor = at(0, "a");
            CHECK.is("strike(0, " + time + ")", 0, tutor.strike(0, time));
            CHECK.is("lesson(0, 2)", time, tutor.lesson(0, 2));
            TypingTutor wrong = at(0, "a");
            CHECK.is("strike(15, " + time + ")", 4, wrong.strike(15, time));
        }
    }

    private static void noTime() {
        CHECK.promise("14: IllegalArgumentException if time is not 1 to 5000");
        for (int time : NO_TIMES) {
            CHECK.refused("strike(0, " + time + ")", ARGUMENT, () -> at(0, "abc"),
                tutor -> tutor.strike(0, time));
            CHECK.refused("strike(25, " + time + ")", ARGUMENT, () -> at(1, "abc"),
                tutor -> tutor.strike(25, time));
        }
    }

    private static void noKey() {
        CHECK.promise("14: IndexOutOfBoundsException if key is not 0 to 25");
        CHECK.is("strike(0, 100)", 0, at(0, "az").strike(0, 100));
        CHECK.is("strike(25, 100)", 0, at(1, "az").strike(25, 100));
        for (int key : NO_KEYS) {
            CHECK.refused("strike(" + key + ", 100)", INDEX, () -> at(0, "abc"),
                tutor -> tutor.strike(key, 100));
            CHECK.refused("strike(" + key + ", 1) at z", INDEX, () -> at(2, "xyz"),
                tutor -> tutor.strike(key, 1));
        }
    }

    private static void noLesson() {
        CHECK.promise("14: IllegalStateException if no lesson is open");
        CHECK.refused("strike(0, 1) of a new tutor", STATE, TypingTutor::new,
            tutor -> tutor.strike(0, 1));
        CHECK.refused("strike(0, 1) with words alone", STATE, () -> Typing.withWords("a"),
            tutor -> tutor.strike(0, 1));
        CHECK.refused("strike(0, 5000) behind the end", STATE, () -> at(1, "a"),
            tutor -> tutor.strike(0, 5000));
    }

    private static void firstNamedFirst() {
        CHECK.promise("14: of several exceptions the one that is named first");
        Supplier<TypingTutor> closed = () -> Typing.withWords("abc");
        Supplier<TypingTutor> open = () -> at(1, "abc");
        for (int key : NO_KEYS) {
            CHECK.refused("strike(" + key + ", 100), none open", INDEX, closed,
                tutor -> tutor.strike(key, 100));
            for (int time : NO_TIMES) {
                CHECK.refused("strike(" + key + ", " + time + ")", INDEX, open,
                    tutor -> tutor.strike(key, time));
                CHECK.refused("strike(" + key + ", " + time + "), none open", INDEX, closed,
                    tutor -> tutor.strike(key, time));
            }
        }
        for (int time : NO_TIMES) {
            CHECK.refused("strike(0, " + time + "), none open", ARGUMENT, closed,
                tutor -> tutor.strike(0, time));
        }
    }

    // ---- kinds

    private static void rightMeansTheNextLetter() {
        CHECK.promise("a stroke is right (0) if its key is the wanted letter: the next letter is"
            + " wanted then");
        TypingTutor tutor = at(0, "az", "b");
        CHECK.is("strike(a)", 0, tutor.strike(0, 100));
        CHECK.is("wanted()", 25, tutor.wanted());
        CHECK.is("strike(z)", 0, tutor.strike(25, 100));
        CHECK.is("wanted() in the next word", 1, tutor.wanted());
        CHECK.is("strike(b)", 0, tutor.strike(1, 100));
        CHECK.is("isOpen()", false, tutor.isOpen());
    }

    private static void swapAtEachPlace() {
        CHECK.promise("1 SWAP: the key is the letter behind the wanted one in the same word");
        for (int place = 0; place < 7; place++) {
            CHECK.is("at " + EIGHT.charAt(place), 1,
                kindAt(place, EIGHT, EIGHT.charAt(place + 1)));
        }
        // two letters behind it is not the letter behind it
        for (int place = 0; place < 6; place++) {
            CHECK.is("two behind " + EIGHT.charAt(place), 4,
                kindAt(place, EIGHT, EIGHT.charAt(place + 2)));
        }
    }

    private static void swapNotAtTheLastLetter() {
        CHECK.promise("1 SWAP: the letter behind the wanted one (the last letter has none)");
        for (char key = 'a'; key <= 'z'; key++) {
            CHECK.is("at the end, " + key, true, kindAt(7, EIGHT, key) != 1);
            CHECK.is("at one letter, " + key, true, kindAt(0, "q", key) != 1);
        }
        // the first letter is not behind the last one
        CHECK.is("at the end, the first letter", 4, kindAt(7, EIGHT, 'b'));
    }

    private static void swapNotInTheNextWord() {
        CHECK.promise("1 SWAP: .. in the same word");
        CHECK.is("at b, the next word's p", 4, at(1, "ab", "pz").strike(Typing.key('p'), 100));
        CHECK.is("at a, the next word's p", 4, at(0, "a", "p").strike(Typing.key('p'), 100));
        CHECK.is("at p, its z", 1, at(2, "ab", "pz").strike(Typing.key('z'), 100));
    }

    private static void swapIsNotTheWantedLetter() {
        CHECK.promise("1 SWAP: .. and is not the wanted letter");
        TypingTutor tutor = at(0, "aaab");
        CHECK.same("the keys", "000", Typing.strike(tutor, "aaa", 100));
        CHECK.is("done()", 3, tutor.done());
        CHECK.is("mistakes(1)", 0, tutor.mistakes(1));
        CHECK.is("at the first of two, what stands behind both", 4, kindAt(0, "aap", 'p'));
    }

    private static void doubleAtEachPlace() {
        CHECK.promise("2 DOUBLE: the key is the letter ahead of the wanted one in the same word");
        for (int place = 1; place < 8; place++) {
            CHECK.is("at " + EIGHT.charAt(place), 2,
                kindAt(place, EIGHT, EIGHT.charAt(place - 1)));
        }
        for (int place = 2; place < 8; place++) {
            CHECK.is("two ahead of " + EIGHT.charAt(place), 4,
                kindAt(place, EIGHT, EIGHT.charAt(place - 2)));
        }
        // ahead of it in the word, whether it was typed or passed over
        TypingTutor passed = at(0, "apz");
        CHECK.same("the keys", "442", Typing.strike(passed, "mma", 100));
    }

    private static void doubleNotAtTheFirstLetter() {
        CHECK.promise("2 DOUBLE: the letter ahead of the wanted one (the first letter has none)");
        for (char key = 'a'; key <= 'z'; key++) {
            CHECK.is("at the beginning, " + key, true, kindAt(0, EIGHT, key) != 2);
            CHECK.is("at one letter, " + key, true, kindAt(0, "q", key) != 2);
        }
        CHECK.is("at the beginning, the last letter", 4, kindAt(0, EIGHT, 'z'));
    }

    private static void doubleNotInTheWordBefore() {
        CHECK.promise("2 DOUBLE: .. in the same word");
        CHECK.is("at p, the b before it", 4, at(2, "ab", "pz").strike(Typing.key('b'), 100));
        CHECK.is("at p, the a before it", 4, at(1, "a", "p").strike(Typing.key('a'), 100));
        CHECK.is("at z, its p", 2, at(3, "ab", "pz").strike(Typing.key('p'), 100));
        // the letters of a lesson before are not ahead of it either
        TypingTutor tutor = Typing.withWords("ab", "pz");
        Typing.lesson(tutor, 0, "ab", 100);
        CHECK.same("behind a lesson", "4", Typing.lesson(tutor, 1, "b", 100));
    }

    private static void nearIsANeighbour() {
        CHECK.promise("3 NEAR: the key is a neighbour of the wanted letter");
        for (int wanted = 0; wanted < 26; wanted++) {
            String word = "" + (char) ('a' + wanted);
            for (int key = 0; key < 26; key++) {
                boolean near = new TypingTutor().areNeighbours(wanted, key);
                int due = key == wanted ? 0 : near ? 3 : 4;
                CHECK.is("at " + word + ", key " + key, due, at(0, word).strike(key, 100));
            }
        }
    }

    private static void otherIsTheRest() {
        CHECK.promise("4 OTHER");
        CHECK.is("at a, p", 4, kindAt(0, "a", 'p'));
        CHECK.is("at q, z, two rows below", 4, kindAt(0, "q", 'z'));
        CHECK.is("at q, p, the row's other end", 4, kindAt(0, "q", 'p'));
        CHECK.is("at a, a far letter of the word", 4, kindAt(2, EIGHT, 'c'));
    }

    private static void swapBeforeAllOthers() {
        CHECK.promise("of the first of these kinds that fits (SWAP)");
        CHECK.is("behind, ahead and near", 1, kindAt(1, "wew", 'w'));
        CHECK.is("behind and ahead", 1, kindAt(1, "apa", 'a'));
        CHECK.is("behind and near", 1, kindAt(0, "we", 'e'));
        CHECK.is("behind alone", 1, kindAt(0, "wp", 'p'));
    }

    private static void doubleBeforeNear() {
        CHECK.promise("of the first of these kinds that fits (DOUBLE)");
        CHECK.is("ahead and near", 2, kindAt(1, "we", 'w'));
        CHECK.is("ahead alone", 2, kindAt(1, "wp", 'w'));
        CHECK.is("near alone", 3, kindAt(1, "we", 'r'));
        CHECK.is("none of them", 4, kindAt(1, "we", 'p'));
    }

    // ---- one mistake, and a second one

    private static void mistakeKeepsTheLetter() {
        CHECK.promise("with a mistake, the wanted letter stays so");
        for (char key : new char[] {'e', 't', 'g', 'q'}) {
            TypingTutor tutor = at(1, "the");
            tutor.strike(Typing.key(key), 100);
            CHECK.is("wanted() behind " + key, Typing.key('h'), tutor.wanted());
            CHECK.is("done()", 1, tutor.done());
            CHECK.is("strike(h)", 0, tutor.strike(Typing.key('h'), 100));
            CHECK.is("wanted()", Typing.key('e'), tutor.wanted());
        }
    }

    private static void secondMistakePassesOver() {
        CHECK.promise("with a second mistake at the same letter the letter is passed over, and the"
            + " next one is wanted");
        TypingTutor tutor = at(0, "abc");
        tutor.strike(Typing.key('p'), 100);
        CHECK.is("wanted() behind one", 0, tutor.wanted());
        tutor.strike(Typing.key('p'), 100);
        CHECK.is("wanted() behind two", 1, tutor.wanted());
        CHECK.is("done() behind two", 1, tutor.done());
        CHECK.is("key(0, 0)", 1, tutor.key(0, 0));
    }

    private static void secondMistakeOfAnyKind() {
        CHECK.promise("a second mistake at the same letter, whatever it is");
        // at h: e is a SWAP, t a DOUBLE, g NEAR, q OTHER
        String keys = "etgq";
        for (int first = 0; first < 4; first++) {
            for (int second = 0; second < 4; second++) {
                TypingTutor tutor = at(1, "the");
                String both = "" + keys.charAt(first) + keys.charAt(second);
                CHECK.same(both, "" + (first + 1) + (second + 1),
                    Typing.strike(tutor, both, 100));
                CHECK.is("wanted() behind " + both, Typing.key('e'), tutor.wanted());
                CHECK.is("key(h, 1) behind " + both, 1, tutor.key(Typing.key('h'), 1));
            }
        }
    }

    private static void countStartsAnewAtEachLetter() {
        CHECK.promise("a second mistake at the same letter (not at the one before)");
        TypingTutor typed = at(0, "abc");
        CHECK.same("behind a right stroke", "404", Typing.strike(typed, "pap", 100));
        CHECK.is("wanted()", 1, typed.wanted());
        TypingTutor passed = at(0, "abc");
        CHECK.same("behind a letter passed over", "444", Typing.strike(passed, "ppp", 100));
        CHECK.is("wanted()", 1, passed.wanted());
        TypingTutor words = at(0, "a", "b");
        CHECK.same("in the next word", "404", Typing.strike(words, "pap", 100));
        CHECK.is("wanted()", 1, words.wanted());
    }

    private static void countStartsAnewInEachLesson() {
        CHECK.promise("a second mistake at the same letter (of the same lesson)");
        TypingTutor tutor = at(0, "a");
        Typing.strike(tutor, "p", 100);
        tutor.giveUp();
        CHECK.same("the next lesson", "4", Typing.lesson(tutor, 0, "p", 100));
        CHECK.is("isOpen()", true, tutor.isOpen());
        Typing.strike(tutor, "p", 100);
        CHECK.same("the lesson behind it", "4", Typing.lesson(tutor, 0, "p", 100));
        CHECK.is("isOpen()", true, tutor.isOpen());
    }

    private static void passedOverIntoTheNextWord() {
        CHECK.promise("the letter is passed over, and the next one is wanted (of the next word)");
        TypingTutor tutor = at(1, "ab", "cd");
        Typing.strike(tutor, "pp", 100);
        CHECK.is("wanted()", 2, tutor.wanted());
        CHECK.is("done()", 2, tutor.done());
        CHECK.same("at c, its d", "1", Typing.strike(tutor, "d", 100));
    }

    // ---- the end of a lesson

    private static void finishedByTheLastStroke() {
        CHECK.promise("a lesson is finished when its last letter is typed");
        TypingTutor tutor = at(2, "abc");
        CHECK.is("isOpen()", true, tutor.isOpen());
        CHECK.is("lessons()", 0, tutor.lessons());
        CHECK.is("strike(c)", 0, tutor.strike(2, 100));
        CHECK.is("isOpen() behind it", false, tutor.isOpen());
        CHECK.is("lessons() behind it", 1, tutor.lessons());
        TypingTutor unclean = at(2, "abc");
        Typing.strike(unclean, "pc", 100);
        CHECK.is("isOpen() behind a mistake and it", false, unclean.isOpen());
        CHECK.is("lesson(0, 1)", 2, unclean.lesson(0, 1));
    }

    private static void finishedByPassingOver() {
        CHECK.promise("a lesson is finished when its last letter is passed over");
        TypingTutor tutor = at(2, "abc");
        CHECK.same("two mistakes", "44", Typing.strike(tutor, "pp", 100));
        CHECK.is("isOpen()", false, tutor.isOpen());
        CHECK.is("lessons()", 1, tutor.lessons());
        CHECK.is("lesson(0, 0)", 3, tutor.lesson(0, 0));
        CHECK.is("lesson(0, 1)", 2, tutor.lesson(0, 1));
        CHECK.is("lesson(0, 2)", 400, tutor.lesson(0, 2));
    }

    private static void notFinishedByOneMistake() {
        CHECK.promise("a lesson is finished when its last letter is typed or passed over (not by a"
            + " mistake at it)");
        TypingTutor tutor = at(2, "abc");
        Typing.strike(tutor, "p", 100);
        CHECK.is("isOpen()", true, tutor.isOpen());
        CHECK.is("lessons()", 0, tutor.lessons());
        CHECK.is("giveUp()", 1, tutor.giveUp());
        CHECK.is("lessons() given up", 0, tutor.lessons());
    }

    private static void oneLetterAndLongestLesson() {
        CHECK.promise("at most 6 words of 1 to 8 letters");
        TypingTutor one = at(0, "a");
        CHECK.is("strike(a)", 0, one.strike(0, 100));
        CHECK.is("lesson(0, 0)", 1, one.lesson(0, 0));
        TypingTutor all = at(0, "abcdefgh", "ijklmnop", "qrstuvwx", "yzacegik", "hgfedcba",
            "ponmlkji");
        for (int stroke = 0; stroke < 96; stroke++) {
            CHECK.is("isOpen() behind " + stroke + " strokes", true, all.isOpen());
            CHECK.is("done() behind " + stroke + " strokes", stroke / 2, all.done());
            CHECK.is("a mistake", true, all.strike((all.wanted() + 13) % 26, 5000) > 0);
        }
        CHECK.is("isOpen() behind 96 strokes", false, all.isOpen());
        CHECK.is("lesson(0, 0)", 48, all.lesson(0, 0));
        CHECK.is("lesson(0, 1)", 0, all.lesson(0, 1));
        CHECK.is("lesson(0, 2)", 480000, all.lesson(0, 2));
    }

    private static void everyWordOfTheLongestLesson() {
        CHECK.promise("SWAP and DOUBLE: .. in the same word (of six words of eight letters)");
        // b and p are no neighbours, and stand at the words' ends alone
        String[] words = {"bkkkkkkp", "bllllllp", "bmmmmmmp", "bxxxxxxp", "byyyyyyp", "bzzzzzzp"};
        TypingTutor tutor = at(0, words);
        for (int word = 0; word < 6; word++) {
            CHECK.is("lessonWord(" + word + ")", word, tutor.lessonWord(word));
            // the p before this word is not ahead of its b, the b behind it not behind its p
            CHECK.is("p at the first letter of word " + word, 4, strikeAndGoOn(tutor, 'p'));
            Typing.typeUpTo(tutor, 6, 100);
            CHECK.is("b at the last letter of word " + word, 4, strikeAndGoOn(tutor, 'b'));
        }
        CHECK.is("isOpen()", false, tutor.isOpen());
        CHECK.is("tries of the pair p, b", 0,
            tutor.pair(Typing.key('p'), Typing.key('b'), 0));
    }

    private static int strikeAndGoOn(TypingTutor tutor, char key) {
        int kind = tutor.strike(Typing.key(key), 100);
        tutor.strike(tutor.wanted(), 100);
        return kind;
    }

    private static void refusedStrokesAreNoMistakes() {
        CHECK.promise("a method that throws an exception changes nothing (strike)");
        Supplier<TypingTutor> past = () -> {
            TypingTutor tutor = at(1, "ab", "c");
            Typing.strike(tutor, "p", 100);
            return tutor;
        };
        CHECK.refused("strike(-1, 100)", INDEX, past, tutor -> tutor.strike(-1, 100));
        CHECK.refused("strike(26, 100)", INDEX, past, tutor -> tutor.strike(26, 100));
        CHECK.refused("strike(15, 0)", ARGUMENT, past, tutor -> tutor.strike(15, 0));
        CHECK.refused("strike(15, 5001)", ARGUMENT, past, tutor -> tutor.strike(15, 5001));
        CHECK.refused("strike(1, 5001)", ARGUMENT, past, tutor -> tutor.strike(1, 5001));
    }

    // ---- promise 18

    private static void mistakesOfEachKind() {
        CHECK.promise("18: returns how many strokes were mistakes of this kind");
        TypingTutor fresh = Typing.withWords("the");
        for (int kind = 1; kind <= 4; kind++) {
            CHECK.is("mistakes(" + kind + ") of none", 0, fresh.mistakes(kind));
        }
        String keys = "etgq";
        for (int kind = 1; kind <= 4; kind++) {
            TypingTutor tutor = at(1, "the");
            String twice = "" + keys.charAt(kind - 1) + keys.charAt(kind - 1);
            Typing.strike(tutor, twice, 100);
            for (int other = 1; other <= 4; other++) {
                // each stroke counts, also the second one at a letter
                CHECK.is("mistakes(" + other + ") of kind " + kind, other == kind ? 2 : 0,
                    tutor.mistakes(other));
            }
        }
    }

    private static void mistakesOfNoKind() {
        CHECK.promise("18: IndexOutOfBoundsException if kind is not 1 to 4");
        for (int kind : new int[] {0, 5, -1, 26, Integer.MIN_VALUE, Integer.MAX_VALUE}) {
            CHECK.refused("mistakes(" + kind + ")", INDEX, () -> at(1, "the"),
                tutor -> tutor.mistakes(kind));
            CHECK.refused("mistakes(" + kind + ") of a new tutor", INDEX, TypingTutor::new,
                tutor -> tutor.mistakes(kind));
        }
    }
}
