/** Words and keys told as texts, so that tests can be read. */
final class Typing {
    private Typing() {
    }

    /** The number that tells a text's characters, one byte each. */
    static long number(String text) {
        long number = 0;
        for (char sign : text.toCharArray()) {
            number = number * 256 + sign;
        }
        return number;
    }

    static int key(char letter) {
        return letter - 'a';
    }

    static TypingTutor withWords(String... words) {
        TypingTutor tutor = new TypingTutor();
        for (String word : words) {
            tutor.addWord(number(word));
        }
        return tutor;
    }

    /** A word of two letters for each i, 0 to 39. */
    static long oneOf40(int i) {
        return number("" + (char) ('a' + i / 20) + (char) ('a' + i % 20));
    }

    /** A tutor with the first of these words, 40 at most. */
    static TypingTutor withFirstOf40(int count) {
        TypingTutor tutor = new TypingTutor();
        for (int i = 0; i < count; i++) {
            tutor.addWord(oneOf40(i));
        }
        return tutor;
    }

    /** Strikes each key of the text; returns the kinds that were told, a digit each. */
    static String strike(TypingTutor tutor, String text, int time) {
        StringBuilder kinds = new StringBuilder();
        for (char letter : text.toCharArray()) {
            kinds.append(tutor.strike(key(letter), time));
        }
        return kinds.toString();
    }

    /** Opens a lesson of one word and strikes the keys of the text in it. */
    static String lesson(TypingTutor tutor, int word, String text, int time) {
        tutor.openWord(word);
        return strike(tutor, text, time);
    }

    /** Strikes the wanted keys until so many letters were tried, without a mistake. */
    static void typeUpTo(TypingTutor tutor, int letters, int time) {
        for (int done = 0; done < letters; done++) {
            tutor.strike(tutor.wanted(), time);
        }
    }
}
