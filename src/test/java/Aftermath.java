/**
 * All that can be seen of a tutor, now and in the lessons that follow. What a tutor keeps of the
 * letter and the lesson that are under way (mistakes, times) shows only when they end.
 */
final class Aftermath {
    /** Enough to finish the short lessons of the tests; a tutor has 512 calls. */
    private static final int MOST_STROKES = 40;

    private Aftermath() {
    }

    static String of(TypingTutor tutor) {
        StringBuilder answers = new StringBuilder();
        look(tutor, answers);
        typeOn(tutor, answers);
        if (tutor.wordCount() < 40) {
            answers.append(" added ").append(tutor.addWord(Typing.number("jxqjxq")));
        }
        answers.append(" opened ").append(tutor.open(6));
        look(tutor, answers);
        typeOn(tutor, answers);
        look(tutor, answers);
        return answers.toString();
    }

    private static void look(TypingTutor tutor, StringBuilder answers) {
        answers.append(" looked ").append(tutor.digest());
        answers.append(' ').append(tutor.isPlateau()).append(' ').append(tutor.accuracy());
        answers.append(' ').append(tutor.weakest()).append(' ').append(tutor.wordCount());
        if (tutor.isOpen()) {
            answers.append(' ').append(tutor.wanted()).append(' ').append(tutor.done());
            answers.append(' ').append(tutor.lessonWord(0));
        }
    }

    /** One mistake first: if one was made at this letter before, it is passed over. */
    private static void typeOn(TypingTutor tutor, StringBuilder answers) {
        if (tutor.isOpen()) {
            answers.append(" struck ").append(tutor.strike((tutor.wanted() + 13) % 26, 700));
        }
        for (int stroke = 0; stroke < MOST_STROKES && tutor.isOpen(); stroke++) {
            answers.append(tutor.strike(tutor.wanted(), 300));
        }
        if (tutor.isOpen()) {
            answers.append(" left ").append(tutor.giveUp());
        }
        int lessons = tutor.lessons();
        for (int what = 0; what <= 3 && lessons > 0; what++) {
            answers.append(' ').append(tutor.lesson(lessons - 1, what));
        }
    }
}
