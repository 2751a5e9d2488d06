/** Promises 15 to 18, by answers worked out by hand from the document's words. */
public final class KnowledgeTest {
    private static final Class<IndexOutOfBoundsException> INDEX = IndexOutOfBoundsException.class;

    /** Numbers that are no key, no kind, and nothing that can be asked for. */
    private static final int[] FAR_OFF = {-1, 26, Integer.MIN_VALUE, Integer.MAX_VALUE};

    private static final Check CHECK = new Check("KnowledgeTest");

    public static void main(String[] args) {
        key();
        keyBehindMistakes();
        keyRefuses();
        pair();
        pairOfPassedOver();
        pairTwiceInAWord();
        pairRefuses();
        weakest();
        weakestOfSeveral();
        mistakes();
        mistakesRefuses();
        CHECK.end();
    }

    private static void key() {
        CHECK.promise("15 key");
        TypingTutor tutor = Typing.withWords("x");
        checkKey(tutor, 'x', 0, 0, 500);
        // the goal is 1000: 500 + 500 / 4
        Typing.lesson(tutor, 0, "x", 1);
        checkKey(tutor, 'x', 1, 0, 625);
        // 625 + (999 - 625) / 4, cut
        Typing.lesson(tutor, 0, "x", 5);
        checkKey(tutor, 'x', 2, 0, 718);
        // the goal is 0: 718 - 718 / 4, cut towards 0
        Typing.lesson(tutor, 0, "x", 5000);
        checkKey(tutor, 'x', 3, 0, 539);
        // 539 + (1 - 539) / 4
        Typing.lesson(tutor, 0, "x", 4999);
        checkKey(tutor, 'x', 4, 0, 405);
        checkKey(tutor, 'y', 0, 0, 500);
        TypingTutor slow = Typing.withWords("x");
        Typing.lesson(slow, 0, "x", 5000);
        checkKey(slow, 'x', 1, 0, 375);
    }

    private static void keyBehindMistakes() {
        CHECK.promise("15 key");
        TypingTutor tutor = Typing.withWords("x");
        // a mistake alone is no try
        Typing.lesson(tutor, 0, "q", 1);
        checkKey(tutor, 'x', 0, 0, 500);
        // right, but not clean: the goal is 0, whatever the time is
        Typing.strike(tutor, "x", 1);
        checkKey(tutor, 'x', 1, 1, 375);
        // passed over: one try and one mistake, not two
        Typing.lesson(tutor, 0, "qq", 1);
        checkKey(tutor, 'x', 2, 2, 282);
        checkKey(tutor, 'q', 0, 0, 500);
        Typing.lesson(tutor, 0, "x", 500);
        checkKey(tutor, 'x', 3, 2, 282 + (900 - 282) / 4);
    }

    private static void keyRefuses() {
        CHECK.promise("15 key");
        TypingTutor tutor = Typing.withWords("x");
        for (int noKey : FAR_OFF) {
            CHECK.refuses("key(" + noKey + ", 0)", INDEX, tutor, () -> tutor.key(noKey, 0));
            CHECK.refuses("key(25, " + noKey + ")", INDEX, tutor, () -> tutor.key(25, noKey));
        }
        CHECK.refuses("key(0, 3)", INDEX, tutor, () -> tutor.key(0, 3));
    }

    private static void checkKey(TypingTutor tutor, char letter, int... due) {
        for (int what = 0; what <= 2; what++) {
            CHECK.is("key(" + letter + ", " + what + ")", due[what],
                tutor.key(Typing.key(letter), what));
        }
    }

    private static void pair() {
        CHECK.promise("16 pair");
        TypingTutor tutor = Typing.withWords("aba");
        checkPair(tutor, "ab", 0, 0, 500, 700);
        Typing.lesson(tutor, 0, "aba", 500);
        checkPair(tutor, "ab", 1, 0, 600, 400);
        checkPair(tutor, "ba", 1, 0, 600, 400);
        checkPair(tutor, "aa", 0, 0, 500, 700);
        checkPair(tutor, "zz", 0, 0, 500, 700);
        // a mistake at b is one of ab alone
        Typing.lesson(tutor, 0, "aqba", 500);
        checkPair(tutor, "ab", 2, 1, 450, 550);
        checkPair(tutor, "ba", 2, 0, 675, 325);
    }

    private static void pairOfPassedOver() {
        CHECK.promise("16 pair");
        TypingTutor tutor = Typing.withWords("ab");
        // the first letter is passed over: ab is tried with b all the same, and clean
        Typing.lesson(tutor, 0, "ppb", 500);
        checkPair(tutor, "ab", 1, 0, 600, 400);
        // b is passed over
        Typing.lesson(tutor, 0, "app", 500);
        checkPair(tutor, "ab", 2, 1, 450, 550);
    }

    private static void pairTwiceInAWord() {
        CHECK.promise("16 pair");
        TypingTutor tutor = Typing.withWords("aaa");
        Typing.lesson(tutor, 0, "aaa", 500);
        // 500, 600, 675; the key is tried a third time: 731
        checkPair(tutor, "aa", 2, 0, 675, 325);
        checkKey(tutor, 'a', 3, 0, 731);
    }

    private static void pairRefuses() {
        CHECK.promise("16 pair");
        TypingTutor tutor = Typing.withWords("ab");
        for (int noKey : FAR_OFF) {
            CHECK.refuses("pair(" + noKey + ", 0, 0)", INDEX, tutor,
                () -> tutor.pair(noKey, 0, 0));
            CHECK.refuses("pair(0, " + noKey + ", 0)", INDEX, tutor,
                () -> tutor.pair(0, noKey, 0));
            CHECK.refuses("pair(25, 25, " + noKey + ")", INDEX, tutor,
                () -> tutor.pair(25, 25, noKey));
        }
        CHECK.refuses("pair(0, 0, 4)", INDEX, tutor, () -> tutor.pair(0, 0, 4));
    }

    private static void checkPair(TypingTutor tutor, String pair, int... due) {
        for (int what = 0; what <= 3; what++) {
            CHECK.is("pair(" + pair + ", " + what + ")", due[what],
                tutor.pair(Typing.key(pair.charAt(0)), Typing.key(pair.charAt(1)), what));
        }
    }

    private static void weakest() {
        CHECK.promise("17 weakest");
        TypingTutor tutor = Typing.withWords("x", "zy", "ab");
        CHECK.is("weakest() of none", -1, tutor.weakest());
        Typing.lesson(tutor, 0, "x", 10);
        CHECK.is("weakest() of keys alone", -1, tutor.weakest());
        // a pair that was tried is told, though all others are weaker
        Typing.lesson(tutor, 1, "zy", 10);
        CHECK.is("weakest() of one", 25 * 26 + 24, tutor.weakest());
        Typing.lesson(tutor, 2, "ab", 100);
        CHECK.is("weakest() of two", 1, tutor.weakest());
        Typing.lesson(tutor, 1, "zqy", 10);
        CHECK.is("weakest() behind a mistake", 25 * 26 + 24, tutor.weakest());
        TypingTutor open = Typing.withWords("ab");
        Typing.lesson(open, 0, "aq", 10);
        CHECK.is("weakest() before the try", -1, open.weakest());
    }

    private static void weakestOfSeveral() {
        CHECK.promise("17 weakest");
        TypingTutor tutor = Typing.withWords("cb", "bd", "bc", "aa", "zz");
        Typing.lesson(tutor, 0, "cb", 100);
        CHECK.is("weakest()", 2 * 26 + 1, tutor.weakest());
        Typing.lesson(tutor, 1, "bd", 100);
        CHECK.is("weakest(), the smaller first key", 26 + 3, tutor.weakest());
        Typing.lesson(tutor, 2, "bc", 100);
        CHECK.is("weakest(), the smaller second key", 26 + 2, tutor.weakest());
        Typing.lesson(tutor, 4, "zz", 100);
        CHECK.is("weakest(), a greater one", 26 + 2, tutor.weakest());
        Typing.lesson(tutor, 3, "aa", 100);
        CHECK.is("weakest(), pair 0", 0, tutor.weakest());
    }

    private static void mistakes() {
        CHECK.promise("18 mistakes");
        TypingTutor tutor = Typing.withWords("the", "q");
        // at t: h is behind it; at h: t is ahead of it; at e: w and p
        CHECK.same("the kinds", "102034", Typing.lesson(tutor, 0, "htthwp", 10));
        checkMistakes(tutor, 1, 1, 1, 1);
        Typing.lesson(tutor, 1, "pm", 10);
        checkMistakes(tutor, 1, 1, 1, 3);
        // those of a lesson that is given up stay
        Typing.lesson(tutor, 1, "w", 10);
        checkMistakes(tutor, 1, 1, 2, 3);
        tutor.giveUp();
        checkMistakes(tutor, 1, 1, 2, 3);
    }

    private static void mistakesRefuses() {
        CHECK.promise("18 mistakes");
        TypingTutor tutor = Typing.withWords("q");
        for (int kind : new int[] {0, -1, 5, Integer.MIN_VALUE, Integer.MAX_VALUE}) {
            CHECK.refuses("mistakes(" + kind + ")", INDEX, tutor, () -> tutor.mistakes(kind));
        }
    }

    private static void checkMistakes(TypingTutor tutor, int... due) {
        for (int kind = 1; kind <= 4; kind++) {
            CHECK.is("mistakes(" + kind + ")", due[kind - 1], tutor.mistakes(kind));
        }
    }
}
