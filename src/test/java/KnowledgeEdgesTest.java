/**
 * The edges that the document names for what is known of keys and pairs, and in promises 15 to 17:
 * a test for each sentence, under its words.
 */
public final class KnowledgeEdgesTest {
    private static final Class<IndexOutOfBoundsException> INDEX = IndexOutOfBoundsException.class;

    private static final int[] NO_KEYS = {-1, 26, -26, 97, 256, 676, Integer.MIN_VALUE,
        Integer.MAX_VALUE};
    private static final int[] NOTHING = {-1, 26, Integer.MIN_VALUE, Integer.MAX_VALUE};

    private static final Check CHECK = new Check("KnowledgeEdgesTest");

    public static void main(String[] args) {
        keysAtFirst();
        pairsAtFirst();
        triedByARightStroke();
        triedByPassingOver();
        notTriedByOneMistake();
        cleanWithoutAMistake();
        pairOfTheFirstLetter();
        pairAcrossWords();
        pairOfALetterPassedOver();
        pairTwiceInAWord();
        everyPairOfItsOwn();
        levelRisesCut();
        levelFallsCut();
        levelAtItsGoal();
        goalOfTimes();
        goalAtLeast0();
        goalOfALastStroke();
        weaknessOfNeverTried();
        weaknessAtItsEnds();
        noSuchKey();
        noSuchPair();
        weakestOfNone();
        weakestAmongThoseTried();
        weakestIsTheGreatest();
        weakestOfSeveral();
        weakestAtTheEnds();
        CHECK.end();
    }

    private static void checkKey(TypingTutor tutor, int key, int... due) {
        for (int what = 0; what <= 2; what++) {
            CHECK.is("key(" + key + ", " + what + ")", due[what], tutor.key(key, what));
        }
    }

    private static void checkPair(TypingTutor tutor, String pair, int... due) {
        int first = Typing.key(pair.charAt(0));
        int second = Typing.key(pair.charAt(1));
        for (int what = 0; what <= 3; what++) {
            CHECK.is("pair(" + pair + ", " + what + ")", due[what],
                tutor.pair(first, second, what));
        }
    }

    // ---- tries and mistakes

    private static void keysAtFirst() {
        CHECK.promise("each key has a number of tries, of mistakes, and a level, which is 500 at"
            + " first");
        TypingTutor tutor = new TypingTutor();
        for (int key = 0; key < 26; key++) {
            checkKey(tutor, key, 0, 0, 500);
        }
    }

    private static void pairsAtFirst() {
        CHECK.promise("each pair of keys has .. a level, which is 500 at first");
        for (int first = 0; first < 26; first++) {
            TypingTutor tutor = new TypingTutor();
            for (int second = 0; second < 26; second++) {
                checkPair(tutor, "" + (char) ('a' + first) + (char) ('a' + second), 0, 0, 500, 700);
            }
        }
    }

    private static void triedByARightStroke() {
        CHECK.promise("a letter of a lesson is tried when its stroke is right");
        TypingTutor tutor = Typing.withWords("az");
        Typing.lesson(tutor, 0, "a", 500);
        checkKey(tutor, 0, 1, 0, 600);
        checkKey(tutor, 25, 0, 0, 500);
        Typing.strike(tutor, "z", 500);
        checkKey(tutor, 25, 1, 0, 600);
        checkPair(tutor, "az", 1, 0, 600, 400);
        checkPair(tutor, "za", 0, 0, 500, 700);
    }

    private static void triedByPassingOver() {
        CHECK.promise("a letter of a lesson is tried .. when it is passed over");
        TypingTutor tutor = Typing.withWords("az");
        Typing.lesson(tutor, 0, "pp", 500);
        checkKey(tutor, 0, 1, 1, 375);
        Typing.strike(tutor, "pp", 500);
        checkKey(tutor, 25, 1, 1, 375);
        checkPair(tutor, "az", 1, 1, 375, 625);
        // the key that was struck is not the one that was tried
        checkKey(tutor, Typing.key('p'), 0, 0, 500);
    }

    private static void notTriedByOneMistake() {
        CHECK.promise("a letter of a lesson is tried when its stroke is right, or when it is passed"
            + " over (not by one mistake)");
        TypingTutor tutor = Typing.withWords("az");
        Typing.lesson(tutor, 0, "ap", 500);
        checkKey(tutor, 25, 0, 0, 500);
        checkPair(tutor, "az", 0, 0, 500, 700);
        tutor.giveUp();
        checkKey(tutor, 25, 0, 0, 500);
        checkPair(tutor, "az", 0, 0, 500, 700);
    }

    private static void cleanWithoutAMistake() {
        CHECK.promise("the try is clean if there was no mistake at it");
        TypingTutor tutor = Typing.withWords("az");
        Typing.lesson(tutor, 0, "pa", 500);
        checkKey(tutor, 0, 1, 1, 375);
        // the mistake at a is none at z
        Typing.strike(tutor, "z", 500);
        checkKey(tutor, 25, 1, 0, 600);
        checkPair(tutor, "az", 1, 0, 600, 400);
    }

    // ---- pairs

    private static void pairOfTheFirstLetter() {
        CHECK.promise("a pair is tried with its second letter, if this has a letter ahead of it");
        TypingTutor tutor = Typing.withWords("a", "ab");
        Typing.lesson(tutor, 0, "a", 500);
        CHECK.is("weakest() behind one letter", -1, tutor.weakest());
        Typing.lesson(tutor, 1, "a", 500);
        CHECK.is("weakest() behind the first of two", -1, tutor.weakest());
        Typing.strike(tutor, "b", 500);
        CHECK.is("weakest() behind the second", 1, tutor.weakest());
        checkPair(tutor, "aa", 0, 0, 500, 700);
    }

    private static void pairAcrossWords() {
        CHECK.promise("a letter ahead of it in the same word");
        TypingTutor tutor = Typing.withWords("ab", "cd", "e");
        tutor.open(3);
        Typing.strike(tutor, "abcde", 500);
        checkPair(tutor, "ab", 1, 0, 600, 400);
        checkPair(tutor, "cd", 1, 0, 600, 400);
        checkPair(tutor, "bc", 0, 0, 500, 700);
        checkPair(tutor, "de", 0, 0, 500, 700);
        // nor across lessons
        Typing.lesson(tutor, 2, "e", 500);
        checkPair(tutor, "ee", 0, 0, 500, 700);
    }

    private static void pairOfALetterPassedOver() {
        CHECK.promise("a pair is tried with its second letter (whatever became of the first)");
        TypingTutor tutor = Typing.withWords("abc");
        Typing.lesson(tutor, 0, "ppb", 500);
        checkPair(tutor, "ab", 1, 0, 600, 400);
        Typing.strike(tutor, "pp", 500);
        checkPair(tutor, "bc", 1, 1, 375, 625);
    }

    private static void pairTwiceInAWord() {
        CHECK.promise("with each try, key and pair get one more try");
        TypingTutor tutor = Typing.withWords("zzzzzzzz");
        Typing.lesson(tutor, 0, "zzzzzzzz", 500);
        CHECK.is("key(z, 0)", 8, tutor.key(25, 0));
        CHECK.is("pair(z, z, 0)", 7, tutor.pair(25, 25, 0));
        CHECK.is("key(z, 1)", 0, tutor.key(25, 1));
        CHECK.is("pair(z, z, 1)", 0, tutor.pair(25, 25, 1));
    }

    private static void everyPairOfItsOwn() {
        CHECK.promise("what is known of each pair of keys (its own)");
        for (int first = 0; first < 26; first++) {
            for (int second = 0; second < 26; second++) {
                String word = "" + (char) ('a' + first) + (char) ('a' + second);
                TypingTutor tutor = Typing.withWords(word);
                Typing.lesson(tutor, 0, word, 500);
                CHECK.is("weakest() behind " + word, 26 * first + second, tutor.weakest());
                checkPair(tutor, word, 1, 0, 600, 400);
                int next = (26 * first + second + 1) % 676;
                CHECK.is("the next pair's tries", 0, tutor.pair(next / 26, next % 26, 0));
                CHECK.is("the next pair's level", 500, tutor.pair(next / 26, next % 26, 2));
            }
        }
    }

    // ---- level and goal

    private static void levelRisesCut() {
        CHECK.promise("the level becomes level + (goal - level) / 4 (cut towards 0), rising");
        // the goal is 1000; 997 + 3 / 4 is 997 still
        int[] due = {625, 718, 788, 841, 880, 910, 932, 949, 961, 970, 977, 982, 986, 989, 991,
            993, 994, 995, 996, 997, 997, 997};
        TypingTutor tutor = Typing.withWords("x", "xy");
        for (int level : due) {
            Typing.lesson(tutor, 0, "x", 1);
            CHECK.is("key(x, 2)", level, tutor.key(Typing.key('x'), 2));
        }
        for (int level : due) {
            Typing.lesson(tutor, 1, "xy", 1);
            CHECK.is("pair(x, y, 2)", level, tutor.pair(Typing.key('x'), Typing.key('y'), 2));
        }
    }

    private static void levelFallsCut() {
        CHECK.promise("the level becomes level + (goal - level) / 4 (cut towards 0), falling");
        // the goal is 0; 3 - 3 / 4 is 3 still
        int[] due = {375, 282, 212, 159, 120, 90, 68, 51, 39, 30, 23, 18, 14, 11, 9, 7, 6, 5, 4, 3,
            3, 3};
        TypingTutor tutor = Typing.withWords("x", "xy");
        for (int level : due) {
            Typing.lesson(tutor, 0, "qq", 1);
            CHECK.is("key(x, 2)", level, tutor.key(Typing.key('x'), 2));
        }
        for (int level : due) {
            Typing.lesson(tutor, 1, "xqq", 1);
            CHECK.is("pair(x, y, 2)", level, tutor.pair(Typing.key('x'), Typing.key('y'), 2));
        }
    }

    private static void levelAtItsGoal() {
        CHECK.promise("the level becomes level + (goal - level) / 4 (near its goal)");
        // 500 itself, and 3 and 4 from it, above and below
        checkFirstLevel(500, 2500);
        checkFirstLevel(500, 2485);
        checkFirstLevel(501, 2480);
        checkFirstLevel(500, 2515);
        checkFirstLevel(499, 2520);
    }

    private static void checkFirstLevel(int due, int time) {
        TypingTutor tutor = Typing.withWords("ax");
        Typing.lesson(tutor, 0, "ax", time);
        CHECK.is("key(x, 2) behind " + time, due, tutor.key(Typing.key('x'), 2));
        CHECK.is("pair(a, x, 2) behind " + time, due, tutor.pair(0, Typing.key('x'), 2));
    }

    private static void goalOfTimes() {
        CHECK.promise("1000 less a fifth of the time (cut towards 0)");
        // the goals are 1000 up to 4, 999 at 5: 625 and 624; 997 needs 15, 996 needs 20
        int[][] due = {{1, 625}, {4, 625}, {5, 624}, {9, 624}, {10, 624}, {15, 624}, {19, 624},
            {20, 624}, {24, 624}, {25, 623}, {100, 620}, {1000, 575}, {2499, 500}};
        for (int[] one : due) {
            checkFirstLevel(one[1], one[0]);
        }
        // from 625 on: 1000, 999 and 996 are told apart there
        checkSecondLevel(718, 4);
        checkSecondLevel(718, 5);
        checkSecondLevel(718, 19);
        checkSecondLevel(717, 20);
        for (int time = 1; time <= 5000; time++) {
            checkFirstLevel(500 + (1000 - time / 5 - 500) / 4, time);
        }
    }

    private static void checkSecondLevel(int due, int time) {
        TypingTutor tutor = Typing.withWords("x");
        Typing.lesson(tutor, 0, "x", 1);
        Typing.lesson(tutor, 0, "x", time);
        CHECK.is("key(x, 2) behind 1, " + time, due, tutor.key(Typing.key('x'), 2));
    }

    private static void goalAtLeast0() {
        CHECK.promise("the goal is .. at least 0");
        checkFirstLevel(375, 5000);
        checkFirstLevel(376, 4999 - 15);
        TypingTutor tutor = Typing.withWords("x");
        int key = Typing.key('x');
        for (int i = 0; i < 30; i++) {
            Typing.lesson(tutor, 0, "x", 5000);
        }
        checkKey(tutor, key, 30, 0, 3);
        // the goals 0 and 6 are less than 4 away from 3, the goal 7 is not
        Typing.lesson(tutor, 0, "x", 4970);
        checkKey(tutor, key, 31, 0, 3);
        Typing.lesson(tutor, 0, "x", 4965);
        checkKey(tutor, key, 32, 0, 4);
    }

    private static void goalOfALastStroke() {
        CHECK.promise("the goal is 0 if the try is not clean, and otherwise .. the time of the last"
            + " stroke");
        TypingTutor tutor = Typing.withWords("xy");
        tutor.openWord(0);
        tutor.strike(Typing.key('q'), 5000);
        tutor.strike(Typing.key('x'), 1);
        checkKey(tutor, Typing.key('x'), 1, 1, 375);
        // the time of y's own stroke, not of those before it
        tutor.strike(Typing.key('y'), 1);
        checkKey(tutor, Typing.key('y'), 1, 0, 625);
        checkPair(tutor, "xy", 1, 0, 625, 375);
        TypingTutor slow = Typing.withWords("xy");
        slow.openWord(0);
        slow.strike(Typing.key('x'), 1);
        slow.strike(Typing.key('y'), 5000);
        checkKey(slow, Typing.key('x'), 1, 0, 625);
        checkKey(slow, Typing.key('y'), 1, 0, 375);
        checkPair(slow, "xy", 1, 0, 375, 625);
    }

    // ---- weakness

    private static void weaknessOfNeverTried() {
        CHECK.promise("the weakness of a pair is 1000 - its level, plus 200 if it was never tried");
        TypingTutor tutor = Typing.withWords("ab");
        checkPair(tutor, "ab", 0, 0, 500, 700);
        // tried, and at 500 as before
        Typing.lesson(tutor, 0, "ab", 2500);
        checkPair(tutor, "ab", 1, 0, 500, 500);
    }

    private static void weaknessAtItsEnds() {
        CHECK.promise("the weakness of a pair is 1000 - its level (the greatest and the least)");
        TypingTutor weak = Typing.withWords("ab", "b");
        TypingTutor strong = Typing.withWords("ab", "b");
        for (int i = 0; i < 25; i++) {
            Typing.lesson(weak, 0, "aqq", 1);
            Typing.lesson(strong, 0, "ab", 1);
        }
        checkPair(weak, "ab", 25, 25, 3, 997);
        CHECK.is("weight(ab)", 997, weak.weight(0));
        CHECK.is("weight(b)", 997, weak.weight(1));
        checkPair(strong, "ab", 25, 0, 997, 3);
        CHECK.is("weight(ab)", 3, strong.weight(0));
        CHECK.is("weight(b)", 3, strong.weight(1));
    }

    // ---- what is refused

    private static TypingTutor someLearned() {
        TypingTutor tutor = Typing.withWords("az", "za");
        Typing.lesson(tutor, 0, "aqz", 100);
        Typing.lesson(tutor, 1, "zq", 100);
        return tutor;
    }

    private static void noSuchKey() {
        CHECK.promise("15: IndexOutOfBoundsException if key is not 0 to 25, or what is not 0 to 2");
        checkKey(someLearned(), 0, 1, 0, 620);
        checkKey(someLearned(), 25, 2, 1, 526);
        for (int key : NO_KEYS) {
            for (int what = 0; what <= 2; what++) {
                refuseKey(key, what);
            }
            refuseKey(key, 3);
        }
        for (int what : NOTHING) {
            refuseKey(0, what);
            refuseKey(25, what);
        }
        refuseKey(0, 3);
        refuseKey(25, 3);
    }

    private static void refuseKey(int key, int what) {
        CHECK.refused("key(" + key + ", " + what + ")", INDEX, KnowledgeEdgesTest::someLearned,
            tutor -> tutor.key(key, what));
    }

    private static void noSuchPair() {
        CHECK.promise("16: IndexOutOfBoundsException if first or second is not 0 to 25, or what is"
            + " not 0 to 3");
        checkPair(someLearned(), "aa", 0, 0, 500, 700);
        checkPair(someLearned(), "az", 1, 1, 375, 625);
        checkPair(someLearned(), "za", 0, 0, 500, 700);
        checkPair(someLearned(), "zz", 0, 0, 500, 700);
        for (int key : NO_KEYS) {
            // where 26 times the first and the second would tell another pair, too
            refusePair(key, 0, 0);
            refusePair(key, 25, 3);
            refusePair(0, key, 0);
            refusePair(25, key, 3);
            refusePair(key, key, 2);
        }
        for (int what : NOTHING) {
            refusePair(0, 0, what);
            refusePair(25, 25, what);
        }
        refusePair(0, 25, 4);
        refusePair(25, 0, 4);
    }

    private static void refusePair(int first, int second, int what) {
        CHECK.refused("pair(" + first + ", " + second + ", " + what + ")", INDEX,
            KnowledgeEdgesTest::someLearned, tutor -> tutor.pair(first, second, what));
    }

    // ---- promise 17

    private static void weakestOfNone() {
        CHECK.promise("17: -1 if no pair was tried");
        CHECK.is("weakest() new", -1, new TypingTutor().weakest());
        TypingTutor tutor = Typing.withWords("aa");
        CHECK.is("weakest() with words", -1, tutor.weakest());
        Typing.lesson(tutor, 0, "aq", 100);
        CHECK.is("weakest() behind one mistake", -1, tutor.weakest());
        Typing.strike(tutor, "a", 100);
        CHECK.is("weakest() of aa: 0", 0, tutor.weakest());
    }

    private static void weakestAmongThoseTried() {
        CHECK.promise("17: the greatest weakness among those that were tried");
        // mn is the strongest of all pairs then, but it alone was tried
        TypingTutor tutor = Typing.withWords("mn");
        for (int i = 0; i < 25; i++) {
            Typing.lesson(tutor, 0, "mn", 1);
        }
        CHECK.is("pair(m, n, 3)", 3, tutor.pair(12, 13, 3));
        CHECK.is("weakest()", 12 * 26 + 13, tutor.weakest());
    }

    private static void weakestIsTheGreatest() {
        CHECK.promise("17: the pair with the greatest weakness");
        // 500 + (1000 - t / 5 - 500) / 4: 400 milliseconds are 605, 420 are 604
        checkWeakest("ab", 420, "yz", 400, 1);
        checkWeakest("ab", 400, "yz", 420, 24 * 26 + 25);
        checkWeakest("yz", 420, "ab", 400, 24 * 26 + 25);
        // 97 / 5 and 96 / 5 are 19 both
        checkWeakest("yz", 97, "ab", 96, 1);
    }

    private static void checkWeakest(String first, int firstTime, String second, int secondTime,
            int due) {
        TypingTutor tutor = Typing.withWords(first, second);
        Typing.lesson(tutor, 0, first, firstTime);
        Typing.lesson(tutor, 1, second, secondTime);
        CHECK.is("weakest() of " + first + " " + firstTime + ", " + second + " " + secondTime, due,
            tutor.weakest());
    }

    private static void weakestOfSeveral() {
        CHECK.promise("17: of several the one with the smallest first key, then with the smallest"
            + " second one");
        checkWeakest("ba", 100, "ab", 100, 1);
        checkWeakest("ab", 100, "ba", 100, 1);
        checkWeakest("ba", 100, "az", 100, 25);
        checkWeakest("az", 100, "ba", 100, 25);
        checkWeakest("mz", 100, "ma", 100, 12 * 26);
        checkWeakest("ma", 100, "mz", 100, 12 * 26);
        checkWeakest("zz", 100, "zy", 100, 25 * 26 + 24);
    }

    private static void weakestAtTheEnds() {
        CHECK.promise("17: returns 26 times the first key, plus the second one");
        checkWeakest("aa", 200, "mn", 100, 0);
        checkWeakest("az", 200, "mn", 100, 25);
        checkWeakest("za", 200, "mn", 100, 650);
        checkWeakest("zz", 200, "mn", 100, 675);
    }
}
