import java.util.ArrayList;
import java.util.LinkedHashMap;
import java.util.List;
import java.util.Map;
import java.util.function.Function;
import java.util.function.Supplier;

/**
 * The edges that the document names for an object as a whole: its 512 calls, what an exception
 * leaves as it was, and which of several exceptions is thrown.
 */
public final class LifeEdgesTest {
    private static final int[] NUMBERS = {0, 1, 2, 3, 4, 5, 6, 7, 25, 26, 39, 40, 5000, 5001, -1,
        Integer.MIN_VALUE, Integer.MAX_VALUE};

    private static final Check CHECK = new Check("LifeEdgesTest");

    public static void main(String[] args) {
        lastOf512Calls();
        lastOf512CallsChanges();
        historyOfALife();
        lifeOfRefusedCalls();
        lifeOfOneLesson();
        lifeOfTheLongestLessons();
        lifeOfLessonsGivenUp();
        refusedCallsChangeNothing();
        questionsChangeNothing();
        CHECK.end();
    }

    // ---- 512 calls

    /** One word, 255 lessons of one letter with times from 1 on: 511 calls. */
    private static TypingTutor behind511Calls() {
        TypingTutor tutor = Typing.withWords("a");
        for (int time = 1; time <= 255; time++) {
            Typing.lesson(tutor, 0, "a", time);
        }
        return tutor;
    }

    private static void last(String call, Object due, Function<TypingTutor, Object> made) {
        CHECK.same(call, due, answerOf(() -> made.apply(behind511Calls())));
    }

    private static Object answerOf(Supplier<Object> call) {
        try {
            return call.get();
        } catch (RuntimeException e) {
            return "throws." + e.getClass().getSimpleName();
        }
    }

    private static void lastOf512Calls() {
        CHECK.promise("an object is used for at most 512 calls (the last one asks)");
        last("wordCount()", 1, TypingTutor::wordCount);
        last("word(0)", 97L, tutor -> tutor.word(0));
        last("word(1)", "throws.IndexOutOfBoundsException", tutor -> tutor.word(1));
        // the goals fall from 1000 to 949; the level follows them, less than 4 above
        last("weight(0)", 48, tutor -> tutor.weight(0));
        last("key(0, 0)", 255, tutor -> tutor.key(0, 0));
        last("key(0, 1)", 0, tutor -> tutor.key(0, 1));
        last("key(0, 2)", 952, tutor -> tutor.key(0, 2));
        last("pair(0, 0, 0)", 0, tutor -> tutor.pair(0, 0, 0));
        last("weakest()", -1, TypingTutor::weakest);
        last("mistakes(1)", 0, tutor -> tutor.mistakes(1));
        last("isOpen()", false, TypingTutor::isOpen);
        last("giveUp()", "throws.IllegalStateException", TypingTutor::giveUp);
        last("strike(0, 1)", "throws.IllegalStateException", tutor -> tutor.strike(0, 1));
        last("lessons()", 255, TypingTutor::lessons);
        last("lesson(0, 3)", 60000, tutor -> tutor.lesson(0, 3));
        last("lesson(254, 0)", 1, tutor -> tutor.lesson(254, 0));
        last("lesson(254, 1)", 1, tutor -> tutor.lesson(254, 1));
        last("lesson(254, 2)", 255, tutor -> tutor.lesson(254, 2));
        last("lesson(254, 3)", 235, tutor -> tutor.lesson(254, 3));
        last("lesson(255, 0)", "throws.IndexOutOfBoundsException", tutor -> tutor.lesson(255, 0));
        last("pace()", 900, TypingTutor::pace);
        last("isPlateau()", true, TypingTutor::isPlateau);
        last("accuracy()", 1.0, TypingTutor::accuracy);
    }

    private static void lastOf512CallsChanges() {
        CHECK.promise("an object is used for at most 512 calls (the last one changes something)");
        last("addWord(b)", 1, tutor -> tutor.addWord('b'));
        last("addWord(a)", "throws.IllegalStateException", tutor -> tutor.addWord('a'));
        last("open(6)", 1, tutor -> tutor.open(6));
        last("openWord(0)", 1, tutor -> tutor.openWord(0));
        TypingTutor strokes = Typing.withWords("a");
        for (int call = 2; call <= 510; call++) {
            CHECK.is("wordCount()", 1, strokes.wordCount());
        }
        strokes.openWord(0);
        CHECK.is("strike(0, 1), the 512th call", 0, strokes.strike(0, 1));
    }

    private static void historyOfALife() {
        CHECK.promise("24: digest() of the greatest history");
        long d = 191 * 31 + 1;
        d = d * 31 + 97;
        d = ((d * 31 + 255) * 31 + 0) * 31 + 952;
        for (int key = 1; key < 26; key++) {
            d = d * 31 * 31 * 31 + 500;
        }
        // four kinds of mistakes, no lesson open
        d = d * 31 * 31 * 31 * 31 * 31;
        d = d * 31 + 255;
        for (int time = 1; time <= 255; time++) {
            d = (((d * 31 + 1) * 31 + 1) * 31 + time) * 31 + 60000 / time;
        }
        last("digest()", d * 31 + 900, TypingTutor::digest);
    }

    private static void lifeOfRefusedCalls() {
        CHECK.promise("a method that throws an exception changes nothing (511 of them)");
        TypingTutor tutor = new TypingTutor();
        for (int call = 1; call <= 511; call++) {
            int number = call;
            CHECK.same("strike(" + number + ", 0)", number < 26
                ? "throws.IllegalArgumentException" : "throws.IndexOutOfBoundsException",
                answerOf(() -> tutor.strike(number, 0)));
        }
        CHECK.is("digest()", new TypingTutor().digest(), tutor.digest());
    }

    private static void lifeOfOneLesson() {
        CHECK.promise("an object is used for at most 512 calls (a lesson stays open)");
        TypingTutor tutor = Typing.withWords("ab");
        tutor.openWord(0);
        tutor.strike(0, 100);
        for (int call = 4; call <= 510; call++) {
            CHECK.is("wanted()", 1, tutor.wanted());
        }
        CHECK.is("done()", 1, tutor.done());
        CHECK.is("giveUp(), the 512th call", 1, tutor.giveUp());
    }

    private static void lifeOfTheLongestLessons() {
        CHECK.promise("an object is used for at most 512 calls (of the longest lessons)");
        String[] words = {"aaaaaaaa", "bbbbbbbb", "cccccccc", "dddddddd", "eeeeeeee", "ffffffff"};
        TypingTutor tutor = Typing.withWords(words);
        for (int lesson = 0; lesson < 5; lesson++) {
            tutor.open(6);
            for (int stroke = 0; stroke < 96; stroke++) {
                // p is no neighbour of a to f, and no letter of these words
                tutor.strike(Typing.key('p'), 5000);
            }
        }
        CHECK.is("lessons()", 5, tutor.lessons());
        CHECK.is("lesson(4, 2)", 480000, tutor.lesson(4, 2));
        CHECK.is("mistakes(4)", 480, tutor.mistakes(4));
        CHECK.is("key(0, 0)", 40, tutor.key(0, 0));
        CHECK.is("key(0, 1)", 40, tutor.key(0, 1));
        CHECK.is("pair(0, 0, 0)", 35, tutor.pair(0, 0, 0));
        CHECK.is("pair(5, 5, 2)", 3, tutor.pair(5, 5, 2));
        CHECK.is("accuracy()", 0.0, tutor.accuracy());
        CHECK.is("pace()", 60, tutor.pace());
    }

    private static void lifeOfLessonsGivenUp() {
        CHECK.promise("an object is used for at most 512 calls (of lessons given up)");
        TypingTutor tutor = Typing.withFirstOf40(40);
        for (int lesson = 0; lesson < 235; lesson++) {
            CHECK.is("open(6)", 6, tutor.open(6));
            CHECK.is("giveUp()", 12, tutor.giveUp());
        }
        CHECK.is("lessons()", 0, tutor.lessons());
        CHECK.is("pace(), the 512th call", 100, tutor.pace());
    }

    // ---- calls that change nothing

    private static Map<String, Supplier<TypingTutor>> pasts() {
        Map<String, Supplier<TypingTutor>> pasts = new LinkedHashMap<>();
        pasts.put("a new tutor", TypingTutor::new);
        pasts.put("words", () -> Typing.withWords("ab", "z", "the"));
        pasts.put("a full list", () -> Typing.withFirstOf40(40));
        pasts.put("an open lesson", () -> {
            TypingTutor tutor = Typing.withWords("ab", "z", "the");
            tutor.open(6);
            return tutor;
        });
        pasts.put("one mistake", () -> {
            TypingTutor tutor = Typing.withWords("ab", "z", "the");
            tutor.open(2);
            Typing.strike(tutor, "q", 1000);
            return tutor;
        });
        pasts.put("one mistake at the last letter", () -> {
            TypingTutor tutor = Typing.withWords("ab", "z", "the");
            Typing.lesson(tutor, 0, "ppm", 1000);
            return tutor;
        });
        pasts.put("a lesson given up", () -> {
            TypingTutor tutor = Typing.withWords("ab", "z", "the");
            Typing.lesson(tutor, 2, "thm", 1000);
            tutor.giveUp();
            return tutor;
        });
        pasts.put("a history", () -> {
            TypingTutor tutor = Typing.withWords("ab", "z", "the");
            for (int i = 0; i < 6; i++) {
                Typing.lesson(tutor, 0, "apb", 200 - i);
            }
            return tutor;
        });
        return pasts;
    }

    /** Every method that takes arguments, with those that any sentence of the document names. */
    private static Map<String, Function<TypingTutor, Object>> callsWithArguments() {
        Map<String, Function<TypingTutor, Object>> calls = new LinkedHashMap<>();
        for (long word : new long[] {0, 97, 24930, 96, 123, -1, 97L << 8, Long.MIN_VALUE}) {
            calls.put("addWord(" + word + ")", tutor -> tutor.addWord(word));
        }
        for (int a : NUMBERS) {
            calls.put("word(" + a + ")", tutor -> tutor.word(a));
            calls.put("weight(" + a + ")", tutor -> tutor.weight(a));
            calls.put("open(" + a + ")", tutor -> tutor.open(a));
            calls.put("openWord(" + a + ")", tutor -> tutor.openWord(a));
            calls.put("lessonWord(" + a + ")", tutor -> tutor.lessonWord(a));
            calls.put("mistakes(" + a + ")", tutor -> tutor.mistakes(a));
            for (int b : NUMBERS) {
                String both = "(" + a + ", " + b + ")";
                calls.put("areNeighbours" + both, tutor -> tutor.areNeighbours(a, b));
                calls.put("strike" + both, tutor -> tutor.strike(a, b));
                calls.put("key" + both, tutor -> tutor.key(a, b));
                calls.put("lesson" + both, tutor -> tutor.lesson(a, b));
                calls.put("pair(" + a + ", 25, " + b + ")", tutor -> tutor.pair(a, 25, b));
                calls.put("pair(25, " + a + ", " + b + ")", tutor -> tutor.pair(25, a, b));
            }
        }
        calls.put("giveUp()", TypingTutor::giveUp);
        calls.put("wanted()", TypingTutor::wanted);
        calls.put("done()", TypingTutor::done);
        return calls;
    }

    private static void refusedCallsChangeNothing() {
        pasts().forEach((title, past) -> {
            CHECK.promise("a method that throws an exception changes nothing, behind " + title);
            String due = Aftermath.of(past.get());
            callsWithArguments().forEach((call, made) -> {
                TypingTutor tutor = past.get();
                Object answer = answerOf(() -> made.apply(tutor));
                if (answer.toString().startsWith("throws.")) {
                    CHECK.same("what follows " + call, due, Aftermath.of(tutor));
                }
            });
        });
    }

    private static void questionsChangeNothing() {
        List<Function<TypingTutor, Object>> questions = new ArrayList<>(List.of(
            TypingTutor::wordCount, TypingTutor::isOpen, TypingTutor::weakest, TypingTutor::lessons,
            TypingTutor::pace, TypingTutor::isPlateau, TypingTutor::accuracy, TypingTutor::digest));
        callsWithArguments().forEach((call, made) -> {
            if (!call.matches("(addWord|open|openWord|giveUp|strike)\\(.*")) {
                questions.add(made);
            }
        });
        pasts().forEach((title, past) -> {
            CHECK.promise("a method that tells something changes nothing, behind " + title);
            String due = Aftermath.of(past.get());
            questions.forEach(question -> {
                TypingTutor tutor = past.get();
                Object answer = answerOf(() -> question.apply(tutor));
                CHECK.same("the same question again", answer,
                    answerOf(() -> question.apply(tutor)));
                CHECK.same("what follows a question", due, Aftermath.of(tutor));
            });
        });
    }
}
