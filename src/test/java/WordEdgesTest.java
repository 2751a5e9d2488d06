/**
 * The edges that the document names for letters, words and keys, and in promises 1 to 6: a test for
 * each sentence, under its words.
 */
public final class WordEdgesTest {
    private static final Class<IllegalArgumentException> ARGUMENT = IllegalArgumentException.class;
    private static final Class<IllegalStateException> STATE = IllegalStateException.class;
    private static final Class<IndexOutOfBoundsException> INDEX = IndexOutOfBoundsException.class;

    private static final int[] NO_KEYS = {-1, 26, -26, 97, 122, 256, Integer.MIN_VALUE,
        Integer.MAX_VALUE};

    private static final Check CHECK = new Check("WordEdgesTest");

    public static void main(String[] args) {
        withoutWords();
        withoutLessons();
        nothingSharedByTutors();
        firstAndLastKey();
        oneToEightLetters();
        noLetters();
        bytesOfLetters();
        noZerosBehindTheFirstLetter();
        numbersBelowZero();
        firstLetterHighest();
        atMost40Words();
        numberedInTheirOrder();
        refusedOnesTakeNoNumber();
        noWordTwice();
        likeWordsAreNotTheSame();
        noWordComesFirst();
        noSuchWord();
        wordAndWeightWhileALessonIsOpen();
        weightOfOneLetter();
        weightOfTwoAndEightLetters();
        weightIsCut();
        sideBySideInARow();
        rowsDoNotWrapAround();
        placesOfTheNextRow();
        rowsThatAreNotNext();
        noKeyIsItsOwnNeighbour();
        neighboursBothWays();
        neighboursOfNoKey();
        CHECK.end();
    }

    // ---- promise 1

    private static void withoutWords() {
        CHECK.promise("1: creates a tutor without words");
        CHECK.is("wordCount()", 0, new TypingTutor().wordCount());
        CHECK.refused("word(0)", INDEX, TypingTutor::new, tutor -> tutor.word(0));
        CHECK.refused("weight(0)", INDEX, TypingTutor::new, tutor -> tutor.weight(0));
        CHECK.refused("openWord(0)", INDEX, TypingTutor::new, tutor -> tutor.openWord(0));
        CHECK.refused("open(1)", STATE, TypingTutor::new, tutor -> tutor.open(1));
        CHECK.is("addWord(a)", 0, new TypingTutor().addWord('a'));
    }

    private static void withoutLessons() {
        CHECK.promise("1: creates a tutor without lessons");
        CHECK.is("isOpen()", false, new TypingTutor().isOpen());
        CHECK.is("lessons()", 0, new TypingTutor().lessons());
        CHECK.refused("lesson(0, 0)", INDEX, TypingTutor::new, tutor -> tutor.lesson(0, 0));
        CHECK.refused("giveUp()", STATE, TypingTutor::new, TypingTutor::giveUp);
        CHECK.refused("lessonWord(0)", STATE, TypingTutor::new, tutor -> tutor.lessonWord(0));
        CHECK.refused("wanted()", STATE, TypingTutor::new, TypingTutor::wanted);
        CHECK.refused("done()", STATE, TypingTutor::new, TypingTutor::done);
        CHECK.refused("strike(0, 1)", STATE, TypingTutor::new, tutor -> tutor.strike(0, 1));
        CHECK.is("pace()", 100, new TypingTutor().pace());
        CHECK.is("isPlateau()", false, new TypingTutor().isPlateau());
        CHECK.is("accuracy()", 1.0, new TypingTutor().accuracy());
        CHECK.is("weakest()", -1, new TypingTutor().weakest());
    }

    private static void nothingSharedByTutors() {
        CHECK.promise("1: creates a tutor");
        long before = new TypingTutor().digest();
        TypingTutor used = Typing.withWords("ab", "c");
        Typing.lesson(used, 0, "aqb", 100);
        used.openWord(1);
        CHECK.is("digest() of a new one beside it", before, new TypingTutor().digest());
        CHECK.is("isOpen() of a new one", false, new TypingTutor().isOpen());
    }

    // ---- letters and words

    private static void firstAndLastKey() {
        CHECK.promise("keys are the letters a to z, 0 to 25");
        TypingTutor tutor = Typing.withWords("a", "z");
        tutor.openWord(0);
        CHECK.is("wanted() at a", 0, tutor.wanted());
        CHECK.is("strike(0, 1)", 0, tutor.strike(0, 1));
        tutor.openWord(1);
        CHECK.is("wanted() at z", 25, tutor.wanted());
        CHECK.is("strike(25, 1)", 0, tutor.strike(25, 1));
        CHECK.is("key(0, 0)", 1, tutor.key(0, 0));
        CHECK.is("key(25, 0)", 1, tutor.key(25, 0));
    }

    private static void oneToEightLetters() {
        CHECK.promise("a word has 1 to 8 letters");
        for (int letters = 1; letters <= 8; letters++) {
            checkTaken("aaaaaaaa".substring(0, letters));
            checkTaken("zzzzzzzz".substring(0, letters));
            checkTaken("azbycxdw".substring(0, letters));
        }
    }

    private static void checkTaken(String word) {
        TypingTutor tutor = new TypingTutor();
        CHECK.is("addWord(" + word + ")", 0, tutor.addWord(Typing.number(word)));
        CHECK.is("word(0) of " + word, Typing.number(word), tutor.word(0));
        CHECK.is("openWord(0) of " + word, word.length(), tutor.openWord(0));
        for (int place = 0; place < word.length(); place++) {
            CHECK.is("wanted() " + place + " of " + word, Typing.key(word.charAt(place)),
                tutor.wanted());
            tutor.strike(tutor.wanted(), 10);
        }
        CHECK.is("isOpen() behind " + word, false, tutor.isOpen());
    }

    private static void noLetters() {
        CHECK.promise("2: IllegalArgumentException if word tells no word (no letters)");
        CHECK.refused("addWord(0)", ARGUMENT, TypingTutor::new, tutor -> tutor.addWord(0));
    }

    private static void bytesOfLetters() {
        CHECK.promise("the bytes of its letters (97 to 122)");
        for (int letters = 1; letters <= 8; letters++) {
            for (int place = 0; place < letters; place++) {
                int shift = 8 * (letters - 1 - place);
                long others = Typing.number("mmmmmmmm".substring(0, letters)) & ~(255L << shift);
                for (int sign = 1; sign <= 255; sign++) {
                    long word = others | (long) sign << shift;
                    CHECK.same("addWord(" + word + ")", sign >= 97 && sign <= 122, takes(word));
                }
            }
        }
        for (int sign : new int[] {96, 123, 65, 90, 225, 250, 255, 353, 378}) {
            CHECK.refused("addWord(" + sign + ")", ARGUMENT, () -> Typing.withWords("a"),
                tutor -> tutor.addWord(sign));
        }
    }

    private static boolean takes(long word) {
        TypingTutor tutor = new TypingTutor();
        try {
            tutor.addWord(word);
        } catch (IllegalArgumentException e) {
            return false;
        }
        return true;
    }

    private static void noZerosBehindTheFirstLetter() {
        CHECK.promise("without bytes that are 0 behind the first letter");
        for (int letters = 2; letters <= 8; letters++) {
            String word = "abcdefgh".substring(0, letters);
            for (int place = 1; place < letters; place++) {
                String holed = word.substring(0, place) + '\0' + word.substring(place + 1);
                CHECK.is("addWord of 0 at " + place + " of " + word, false,
                    takes(Typing.number(holed)));
                String cut = word.substring(0, place) + "\0\0\0\0\0\0\0\0".substring(place);
                CHECK.is("addWord of zeros from " + place + " of 8", false,
                    takes(Typing.number(cut)));
            }
        }
        CHECK.refused("addWord of a, 0", ARGUMENT, TypingTutor::new,
            tutor -> tutor.addWord(97L << 8));
        CHECK.refused("addWord of a and seven 0", ARGUMENT, TypingTutor::new,
            tutor -> tutor.addWord(97L << 56));
        CHECK.refused("addWord of a, 0, a", ARGUMENT, TypingTutor::new,
            tutor -> tutor.addWord(97L << 16 | 97));
    }

    private static void numbersBelowZero() {
        CHECK.promise("2: IllegalArgumentException if word tells no word (numbers below 0)");
        long eight = Typing.number("aaaaaaaa");
        for (long word : new long[] {-1, -97, -eight, Long.MIN_VALUE, Long.MIN_VALUE | 97,
            Long.MIN_VALUE | eight, Long.MAX_VALUE}) {
            CHECK.refused("addWord(" + word + ")", ARGUMENT, TypingTutor::new,
                tutor -> tutor.addWord(word));
        }
    }

    private static void firstLetterHighest() {
        CHECK.promise("that of the first letter highest");
        TypingTutor tutor = new TypingTutor();
        CHECK.is("addWord(az)", 0, tutor.addWord(97 * 256 + 122));
        CHECK.is("addWord(za)", 1, tutor.addWord(122 * 256 + 97));
        tutor.openWord(0);
        CHECK.is("wanted() of az", 0, tutor.wanted());
        tutor.giveUp();
        tutor.openWord(1);
        CHECK.is("wanted() of za", 25, tutor.wanted());
    }

    private static void atMost40Words() {
        CHECK.promise("at most 40 words; 2: IllegalStateException if there are 40 words");
        TypingTutor tutor = Typing.withFirstOf40(39);
        CHECK.is("addWord, the 40th", 39, tutor.addWord(Typing.number("zzzzzzzz")));
        CHECK.is("wordCount()", 40, tutor.wordCount());
        CHECK.refused("addWord, the 41st", STATE, () -> Typing.withFirstOf40(40),
            full -> full.addWord(Typing.number("zzzzzzzz")));
        CHECK.refused("addWord, the 41st within a lesson", STATE, () -> {
            TypingTutor full = Typing.withFirstOf40(40);
            full.openWord(39);
            return full;
        }, full -> full.addWord('a'));
        CHECK.refuses("addWord, the 41st", STATE, tutor, () -> tutor.addWord('a'));
        CHECK.refuses("addWord, the 41st again", STATE, tutor, () -> tutor.addWord('b'));
        CHECK.is("word(39)", Typing.number("zzzzzzzz"), tutor.word(39));
    }

    private static void numberedInTheirOrder() {
        CHECK.promise("numbered from 0 in the order in which they were added");
        TypingTutor tutor = new TypingTutor();
        for (int i = 0; i < 40; i++) {
            // neither the numbers nor the letters of these words ascend
            CHECK.is("addWord", i, tutor.addWord(Typing.oneOf40((i * 17 + 5) % 40)));
        }
        for (int i = 0; i < 40; i++) {
            CHECK.is("word(" + i + ")", Typing.oneOf40((i * 17 + 5) % 40), tutor.word(i));
        }
    }

    private static void refusedOnesTakeNoNumber() {
        CHECK.promise("2: returns its number");
        TypingTutor tutor = Typing.withWords("a");
        CHECK.refuses("addWord(0)", ARGUMENT, tutor, () -> tutor.addWord(0));
        CHECK.refuses("addWord(a)", STATE, tutor, () -> tutor.addWord('a'));
        CHECK.is("addWord(b)", 1, tutor.addWord('b'));
        CHECK.is("wordCount()", 2, tutor.wordCount());
    }

    private static void noWordTwice() {
        CHECK.promise("no word is there twice; 2: IllegalStateException if this one is there");
        CHECK.refused("addWord of the one word", STATE, () -> Typing.withWords("zzzzzzzz"),
            tutor -> tutor.addWord(Typing.number("zzzzzzzz")));
        for (int i : new int[] {0, 1, 20, 37, 38}) {
            CHECK.refused("addWord of word " + i, STATE, () -> Typing.withFirstOf40(39),
                tutor -> tutor.addWord(Typing.oneOf40(i)));
        }
        CHECK.refused("addWord of a word of the lesson", STATE, () -> {
            TypingTutor tutor = Typing.withWords("ab", "c");
            tutor.open(2);
            return tutor;
        }, tutor -> tutor.addWord('c'));
    }

    private static void likeWordsAreNotTheSame() {
        CHECK.promise("no word is there twice (others are taken)");
        TypingTutor tutor = new TypingTutor();
        for (int letters = 1; letters <= 8; letters++) {
            String word = "aaaaaaaa".substring(0, letters);
            CHECK.is("addWord(" + word + ")", letters - 1, tutor.addWord(Typing.number(word)));
        }
        for (int place = 0; place < 8; place++) {
            String word = "aaaaaaaa".substring(0, place) + 'b' + "aaaaaaaa".substring(place + 1);
            CHECK.is("addWord(" + word + ")", 8 + place, tutor.addWord(Typing.number(word)));
        }
    }

    private static void noWordComesFirst() {
        CHECK.promise("2: of several exceptions the one that is named first");
        CHECK.refused("addWord(0) to a full list", ARGUMENT, () -> Typing.withFirstOf40(40),
            tutor -> tutor.addWord(0));
        CHECK.refused("addWord(-1) to a full list", ARGUMENT, () -> Typing.withFirstOf40(40),
            tutor -> tutor.addWord(-1));
        CHECK.refused("addWord to a full list that has it", STATE, () -> Typing.withFirstOf40(40),
            tutor -> tutor.addWord(Typing.oneOf40(39)));
    }

    // ---- promises 3 to 5

    private static void noSuchWord() {
        CHECK.promise("4 and 5: IndexOutOfBoundsException if there is no such word");
        for (int count : new int[] {0, 1, 2, 39, 40}) {
            TypingTutor tutor = Typing.withFirstOf40(count);
            CHECK.is("wordCount()", count, tutor.wordCount());
            if (count > 0) {
                CHECK.is("word(0)", Typing.oneOf40(0), tutor.word(0));
                CHECK.is("word(" + (count - 1) + ")", Typing.oneOf40(count - 1),
                    tutor.word(count - 1));
                CHECK.is("weight(0)", 700, tutor.weight(0));
                CHECK.is("weight(" + (count - 1) + ")", 700, tutor.weight(count - 1));
            }
            for (int number : new int[] {count, -1, 41, 97, Integer.MIN_VALUE,
                Integer.MAX_VALUE}) {
                CHECK.refused("word(" + number + ") of " + count, INDEX,
                    () -> Typing.withFirstOf40(count), one -> one.word(number));
                CHECK.refused("weight(" + number + ") of " + count, INDEX,
                    () -> Typing.withFirstOf40(count), one -> one.weight(number));
            }
        }
    }

    private static void wordAndWeightWhileALessonIsOpen() {
        CHECK.promise("4 and 5: the words of the list, not of the lesson");
        TypingTutor tutor = Typing.withWords("ab", "c");
        tutor.openWord(1);
        CHECK.is("word(0)", Typing.number("ab"), tutor.word(0));
        CHECK.is("weight(0)", 700, tutor.weight(0));
        CHECK.is("weight(1)", 500, tutor.weight(1));
        CHECK.refuses("word(2)", INDEX, tutor, () -> tutor.word(2));
        CHECK.refuses("weight(2)", INDEX, tutor, () -> tutor.weight(2));
    }

    private static void weightOfOneLetter() {
        CHECK.promise("a word of one letter has the weight 1000 - the level of its key");
        TypingTutor tutor = Typing.withWords("a", "aa", "ba");
        CHECK.is("weight(a) new", 500, tutor.weight(0));
        // the key a alone is learned here: 625
        Typing.lesson(tutor, 0, "a", 1);
        CHECK.is("weight(a)", 375, tutor.weight(0));
        CHECK.is("weight(aa)", 700, tutor.weight(1));
        // the pair ba is at 600 here, the key a at 693
        Typing.lesson(tutor, 2, "ba", 500);
        CHECK.is("weight(ba)", 400, tutor.weight(2));
        CHECK.is("weight(a)", 1000 - 693, tutor.weight(0));
    }

    private static void weightOfTwoAndEightLetters() {
        CHECK.promise("the sum of the weaknesses of its pairs (each place counted),"
            + " divided by the number of its pairs");
        TypingTutor tutor = Typing.withWords("ab", "abababab", "abcdefgh", "cdefghab", "cdeabfgh");
        // ab is at 625 then, and weighs 375; ba and the rest were never tried
        Typing.lesson(tutor, 0, "ab", 1);
        CHECK.is("weight(ab)", 375, tutor.weight(0));
        CHECK.is("weight(abababab)", (4 * 375 + 3 * 700) / 7, tutor.weight(1));
        CHECK.is("weight(abcdefgh)", (375 + 6 * 700) / 7, tutor.weight(2));
        CHECK.is("weight(cdefghab)", (375 + 6 * 700) / 7, tutor.weight(3));
        CHECK.is("weight(cdeabfgh)", (375 + 6 * 700) / 7, tutor.weight(4));
    }

    private static void weightIsCut() {
        CHECK.promise("divided by the number of its pairs (cut towards 0)");
        TypingTutor tutor = Typing.withWords("ab", "abc", "abcd");
        // 500 + 498 / 4: ab weighs 376, abc 1076 / 2 = 538, abcd 1776 / 3 = 592
        Typing.lesson(tutor, 0, "ab", 10);
        CHECK.is("weight(ab)", 376, tutor.weight(0));
        CHECK.is("weight(abc), even", 538, tutor.weight(1));
        CHECK.is("weight(abcd), even", 592, tutor.weight(2));
        // 624 + 374 / 4 = 717: 283; 983 / 2 = 491.5, 1683 / 3 = 561
        Typing.lesson(tutor, 0, "ab", 10);
        CHECK.is("weight(abc), a half over", 491, tutor.weight(1));
        CHECK.is("weight(abcd)", 561, tutor.weight(2));
        // 717 + 281 / 4 = 787: 213; 1613 / 3 = 537.7
        Typing.lesson(tutor, 0, "ab", 10);
        CHECK.is("weight(abcd), two thirds over", 537, tutor.weight(2));
    }

    // ---- promise 6

    private static final String[] ROWS = {"qwertyuiop", "asdfghjkl", "zxcvbnm"};

    private static boolean near(char a, char b) {
        return new TypingTutor().areNeighbours(Typing.key(a), Typing.key(b));
    }

    private static void sideBySideInARow() {
        CHECK.promise("neighbours if they are in the same row, side by side");
        for (String row : ROWS) {
            for (int i = 0; i < row.length(); i++) {
                for (int j = 0; j < row.length(); j++) {
                    CHECK.is(row.charAt(i) + " and " + row.charAt(j), j == i + 1 || j == i - 1,
                        near(row.charAt(i), row.charAt(j)));
                }
            }
        }
    }

    private static void rowsDoNotWrapAround() {
        CHECK.promise("neighbours if they are in the same row, side by side (rows have ends)");
        for (String pair : new String[] {"qp", "al", "zm", "pa", "lz", "qa", "pl"}) {
            boolean due = pair.equals("qa") || pair.equals("pl");
            CHECK.is(pair, due, near(pair.charAt(0), pair.charAt(1)));
            CHECK.is(pair + " turned", due, near(pair.charAt(1), pair.charAt(0)));
        }
    }

    private static void placesOfTheNextRow() {
        CHECK.promise("in two rows, one of which is the next one, and their places in the rows,"
            + " counted from 0, differ by at most 1");
        for (int upper = 0; upper <= 1; upper++) {
            for (int i = 0; i < ROWS[upper].length(); i++) {
                for (int j = 0; j < ROWS[upper + 1].length(); j++) {
                    char a = ROWS[upper].charAt(i);
                    char b = ROWS[upper + 1].charAt(j);
                    boolean due = i - j <= 1 && j - i <= 1;
                    CHECK.is(a + " above " + b, due, near(a, b));
                    CHECK.is(b + " below " + a, due, near(b, a));
                }
            }
        }
        // a difference of 0, 1 and 2, to either side
        CHECK.is("t above g", true, near('t', 'g'));
        CHECK.is("t above f", true, near('t', 'f'));
        CHECK.is("t above h", true, near('t', 'h'));
        CHECK.is("t above d", false, near('t', 'd'));
        CHECK.is("t above j", false, near('t', 'j'));
        CHECK.is("p above l", true, near('p', 'l'));
        CHECK.is("p above k", false, near('p', 'k'));
        CHECK.is("k above m", true, near('k', 'm'));
        CHECK.is("l above m", false, near('l', 'm'));
    }

    private static void rowsThatAreNotNext() {
        CHECK.promise("in two rows, one of which is the next one (the third is not)");
        for (char a : ROWS[0].toCharArray()) {
            for (char b : ROWS[2].toCharArray()) {
                CHECK.is(a + " and " + b, false, near(a, b));
                CHECK.is(b + " and " + a, false, near(b, a));
            }
        }
    }

    private static void noKeyIsItsOwnNeighbour() {
        CHECK.promise("6: a key is not one of itself");
        for (char a = 'a'; a <= 'z'; a++) {
            CHECK.is(a + " and " + a, false, near(a, a));
        }
    }

    private static void neighboursBothWays() {
        CHECK.promise("6: returns whether they are neighbours");
        int count = 0;
        for (char a = 'a'; a <= 'z'; a++) {
            for (char b = 'a'; b <= 'z'; b++) {
                CHECK.is(a + " and " + b, near(b, a), near(a, b));
                count += near(a, b) ? 1 : 0;
            }
        }
        // within rows 9 + 8 + 6; first to second row 9 + 9 + 8, second to third 7 + 7 + 6
        CHECK.is("pairs of neighbours", 2 * (23 + 26 + 20), count);
    }

    private static void neighboursOfNoKey() {
        CHECK.promise("6: IndexOutOfBoundsException if a or b is not 0 to 25");
        CHECK.is("areNeighbours(0, 25)", true, new TypingTutor().areNeighbours(0, 25));
        CHECK.is("areNeighbours(25, 0)", true, new TypingTutor().areNeighbours(25, 0));
        for (int noKey : NO_KEYS) {
            checkNoNeighbours(noKey, 0);
            checkNoNeighbours(noKey, 25);
            checkNoNeighbours(0, noKey);
            checkNoNeighbours(25, noKey);
            checkNoNeighbours(noKey, noKey);
        }
    }

    private static void checkNoNeighbours(int a, int b) {
        CHECK.refused("areNeighbours(" + a + ", " + b + ")", INDEX, () -> Typing.withWords("a"),
            tutor -> tutor.areNeighbours(a, b) ? 1 : 0);
    }
}
