/** Promises 1 to 6, by answers worked out by hand from the document's words. */
public final class WordsTest {
    private static final Class<IllegalArgumentException> ARGUMENT = IllegalArgumentException.class;
    private static final Class<IllegalStateException> STATE = IllegalStateException.class;
    private static final Class<IndexOutOfBoundsException> INDEX = IndexOutOfBoundsException.class;

    /** Numbers that are no key, no word and no index. */
    private static final int[] FAR_OFF = {-1, 40, 97, Integer.MIN_VALUE, Integer.MAX_VALUE};

    private static final Check CHECK = new Check("WordsTest");

    public static void main(String[] args) {
        newObject();
        addWord();
        addWordThatIsNone();
        addWordBeyondTheList();
        addWordWithinALesson();
        wordCount();
        word();
        weight();
        weightRefuses();
        areNeighbours();
        areNeighboursRefuses();
        CHECK.end();
    }

    private static void newObject() {
        CHECK.promise("1 a new object");
        TypingTutor tutor = new TypingTutor();
        CHECK.is("wordCount()", 0, tutor.wordCount());
        CHECK.is("lessons()", 0, tutor.lessons());
        CHECK.is("isOpen()", false, tutor.isOpen());
        CHECK.is("pace()", 100, tutor.pace());
        CHECK.is("isPlateau()", false, tutor.isPlateau());
        CHECK.is("accuracy()", 1.0, tutor.accuracy());
        CHECK.is("weakest()", -1, tutor.weakest());
        for (int kind = 1; kind <= 4; kind++) {
            CHECK.is("mistakes(" + kind + ")", 0, tutor.mistakes(kind));
        }
        for (int key = 0; key < 26; key++) {
            CHECK.is("key(" + key + ", 0)", 0, tutor.key(key, 0));
            CHECK.is("key(" + key + ", 1)", 0, tutor.key(key, 1));
            CHECK.is("key(" + key + ", 2)", 500, tutor.key(key, 2));
        }
        tutor.addWord('a');
        CHECK.is("wordCount() of another", 0, new TypingTutor().wordCount());
    }

    private static void addWord() {
        CHECK.promise("2 addWord");
        TypingTutor tutor = new TypingTutor();
        CHECK.is("addWord(a)", 0, tutor.addWord(97));
        CHECK.is("addWord(z)", 1, tutor.addWord(122));
        CHECK.is("addWord(eight z)", 2, tutor.addWord(0x7a7a7a7a7a7a7a7aL));
        CHECK.is("addWord(abcdefgh)", 3, tutor.addWord(7017280452245743464L));
        CHECK.is("addWord(the)", 4, tutor.addWord(7628901));
        CHECK.is("addWord(eht)", 5, tutor.addWord(Typing.number("eht")));
        CHECK.refuses("addWord(a) again", STATE, tutor, () -> tutor.addWord(97));
        CHECK.refuses("addWord(abcdefgh) again", STATE, tutor,
            () -> tutor.addWord(7017280452245743464L));
        CHECK.refuses("addWord(eht) again", STATE, tutor,
            () -> tutor.addWord(Typing.number("eht")));
    }

    private static void addWordThatIsNone() {
        CHECK.promise("2 addWord");
        TypingTutor tutor = Typing.withWords("a");
        long[] noWords = {0, -1, 96, 123, 65, 32, 255, 353, Long.MIN_VALUE, Long.MAX_VALUE,
            97L << 8, 97L << 32, 97L << 56, 1L << 32};
        for (long noWord : noWords) {
            CHECK.refuses("addWord(" + noWord + ")", ARGUMENT, tutor, () -> tutor.addWord(noWord));
        }
        String[] noTexts = {"a\0a", "ab\0", "aB", "{a", "a{", "a`", "`a", "a\u00e1",
            "\u00e1aaaaaaa", "a\0aaaaaa", "aaaaaaa\0", "Aaaaaaaa", "aaaaaaaA", "aaa\u00ffaaaa"};
        for (String noText : noTexts) {
            CHECK.refuses("addWord(" + noText + ")", ARGUMENT, tutor,
                () -> tutor.addWord(Typing.number(noText)));
        }
    }

    private static void addWordBeyondTheList() {
        CHECK.promise("2 addWord");
        TypingTutor tutor = new TypingTutor();
        for (int i = 0; i < 40; i++) {
            CHECK.is("addWord of word " + i, i, tutor.addWord(Typing.oneOf40(i)));
        }
        CHECK.refuses("addWord beyond 40", STATE, tutor, () -> tutor.addWord('a'));
        CHECK.refuses("addWord beyond 40, there", STATE, tutor,
            () -> tutor.addWord(Typing.oneOf40(0)));
        CHECK.refuses("addWord beyond 40, no word", ARGUMENT, tutor, () -> tutor.addWord(0));
        CHECK.is("wordCount()", 40, tutor.wordCount());
        CHECK.is("word(39)", Typing.oneOf40(39), tutor.word(39));
    }

    private static void addWordWithinALesson() {
        CHECK.promise("2 addWord");
        TypingTutor tutor = Typing.withWords("ab");
        tutor.open(6);
        CHECK.is("addWord(cd) with a lesson open", 1, tutor.addWord(Typing.number("cd")));
        CHECK.is("wordCount()", 2, tutor.wordCount());
        CHECK.is("giveUp() of the old lesson", 2, tutor.giveUp());
        CHECK.is("open(6)", 2, tutor.open(6));
    }

    private static void wordCount() {
        CHECK.promise("3 wordCount");
        TypingTutor tutor = new TypingTutor();
        for (int i = 0; i < 40; i++) {
            CHECK.is("wordCount()", i, tutor.wordCount());
            tutor.addWord(Typing.oneOf40(i));
        }
        CHECK.is("wordCount()", 40, tutor.wordCount());
    }

    private static void word() {
        CHECK.promise("4 word");
        TypingTutor tutor = Typing.withWords("the", "zzzzzzzz", "a");
        CHECK.is("word(0)", 7628901, tutor.word(0));
        CHECK.is("word(1)", 0x7a7a7a7a7a7a7a7aL, tutor.word(1));
        CHECK.is("word(2)", 97, tutor.word(2));
        CHECK.refuses("word(3)", INDEX, tutor, () -> tutor.word(3));
        for (int number : FAR_OFF) {
            CHECK.refuses("word(" + number + ")", INDEX, tutor, () -> tutor.word(number));
        }
        TypingTutor empty = new TypingTutor();
        CHECK.refuses("word(0) of none", INDEX, empty, () -> empty.word(0));
    }

    private static void weight() {
        CHECK.promise("5 weight");
        TypingTutor tutor = Typing.withWords("ab", "a", "abc", "bcab", "abab");
        CHECK.is("weight(ab) new", 700, tutor.weight(0));
        CHECK.is("weight(a) new", 500, tutor.weight(1));
        CHECK.is("weight(abc) new", 700, tutor.weight(2));
        // a and ab rise from 500 by (900 - 500) / 4: the weakness of ab is 400 then
        Typing.lesson(tutor, 0, "ab", 500);
        CHECK.is("weight(ab)", 400, tutor.weight(0));
        CHECK.is("weight(a)", 400, tutor.weight(1));
        CHECK.is("weight(abc)", (400 + 700) / 2, tutor.weight(2));
        CHECK.is("weight(bcab)", (700 + 700 + 400) / 3, tutor.weight(3));
        CHECK.is("weight(abab)", (400 + 700 + 400) / 3, tutor.weight(4));
        // 600 + (999 - 600) / 4
        Typing.lesson(tutor, 0, "ab", 5);
        CHECK.is("weight(ab)", 301, tutor.weight(0));
        CHECK.is("weight(abc), cut", 500, tutor.weight(2));
        // being in a lesson changes no weight
        tutor.openWord(0);
        CHECK.is("weight(ab) in a lesson", 301, tutor.weight(0));
    }

    private static void weightRefuses() {
        CHECK.promise("5 weight");
        TypingTutor tutor = Typing.withWords("ab", "cd");
        CHECK.refuses("weight(2)", INDEX, tutor, () -> tutor.weight(2));
        for (int number : FAR_OFF) {
            CHECK.refuses("weight(" + number + ")", INDEX, tutor, () -> tutor.weight(number));
        }
        TypingTutor empty = new TypingTutor();
        CHECK.refuses("weight(0) of none", INDEX, empty, () -> empty.weight(0));
    }

    private static void areNeighbours() {
        CHECK.promise("6 areNeighbours");
        // each letter with all that are neighbours of it, read off the three rows
        String[] around = {"a:qwszx", "b:fghvn", "c:sdfxv", "d:werscvxf", "e:wrsdf",
            "f:ertdgcvb", "g:rtyfhvbn", "h:tyugjbnm", "i:uojkl", "j:yuihknm", "k:uiojlm",
            "l:iopk", "m:hjkn", "n:ghjbm", "o:ipkl", "p:ol", "q:was", "r:etdfg", "s:qweadzxc",
            "t:ryfgh", "u:yihjk", "v:dfgcb", "w:qeasd", "x:asdzc", "y:tughj", "z:asx"};
        for (int a = 0; a < 26; a++) {
            TypingTutor tutor = new TypingTutor();
            for (int b = 0; b < 26; b++) {
                CHECK.is("areNeighbours(" + a + ", " + b + ")",
                    around[a].indexOf('a' + b, 2) >= 0, tutor.areNeighbours(a, b));
            }
        }
    }

    private static void areNeighboursRefuses() {
        CHECK.promise("6 areNeighbours");
        TypingTutor tutor = new TypingTutor();
        CHECK.refuses("areNeighbours(26, 26)", INDEX, tutor,
            () -> tutor.areNeighbours(26, 26) ? 1 : 0);
        CHECK.refuses("areNeighbours(0, 26)", INDEX, tutor,
            () -> tutor.areNeighbours(0, 26) ? 1 : 0);
        for (int noKey : FAR_OFF) {
            CHECK.refuses("areNeighbours(" + noKey + ", 0)", INDEX, tutor,
                () -> tutor.areNeighbours(noKey, 0) ? 1 : 0);
            CHECK.refuses("areNeighbours(25, " + noKey + ")", INDEX, tutor,
                () -> tutor.areNeighbours(25, noKey) ? 1 : 0);
        }
    }
}
