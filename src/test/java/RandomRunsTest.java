import java.util.Random;
import java.util.function.Supplier;

/** Long runs of calls, drawn from fixed seeds, held against the ReferenceTutor call by call. */
public final class RandomRunsTest {
    private static final int RUNS = 1500;
    private static final int CALLS = 512;
    private static final int[] FAR_OFF = {-1, 26, 40, 255, Integer.MIN_VALUE, Integer.MAX_VALUE};

    private final Check check;
    private final Random random;
    private final TypingTutor tutor = new TypingTutor();
    private final ReferenceTutor reference = new ReferenceTutor();
    /** Few letters make many double letters and repeated pairs. */
    private final int alphabet;
    private final int mostLetters;
    /** Of 100 strokes so many are aimed at the wanted letter. */
    private final int skill;

    private RandomRunsTest(Check check, long seed) {
        this.check = check;
        random = new Random(seed);
        alphabet = seed % 3 == 0 ? 2 + random.nextInt(3) : 26;
        mostLetters = 1 + random.nextInt(8);
        skill = 50 + random.nextInt(51);
    }

    public static void main(String[] args) {
        Check check = new Check("RandomRunsTest");
        for (int run = 0; run < RUNS; run++) {
            check.promise("run " + run);
            new RandomRunsTest(check, run).run();
        }
        check.end();
    }

    private void run() {
        for (int call = 0; call < CALLS; call++) {
            oneCall();
        }
    }

    private void oneCall() {
        int dice = random.nextInt(100);
        if (dice < 8) {
            addWord();
        } else if (dice < 60) {
            strike();
        } else if (dice < 72) {
            open();
        } else if (dice < 86) {
            ask();
        } else {
            askOfLesson();
        }
    }

    private int number(int bound) {
        return random.nextInt(40) == 0 ? FAR_OFF[random.nextInt(FAR_OFF.length)]
            : random.nextInt(bound + 1);
    }

    private void addWord() {
        long word = 0;
        int letters = 1 + random.nextInt(mostLetters);
        for (int i = 0; i < letters; i++) {
            word = word * 256 + 'a' + random.nextInt(alphabet);
        }
        if (random.nextInt(12) == 0) {
            word ^= 1L << random.nextInt(64);
        }
        long told = word;
        same("addWord(" + told + ")", () -> tutor.addWord(told), () -> reference.addWord(told));
    }

    private void strike() {
        int key = number(25);
        if (reference.isOpen() && random.nextInt(100) < skill) {
            key = reference.wanted();
        } else if (random.nextBoolean()) {
            key = random.nextInt(alphabet);
        }
        int time = random.nextInt(50) == 0 ? random.nextInt(3) * 5000 + random.nextInt(2)
            : 1 + random.nextInt(random.nextBoolean() ? 400 : 5000);
        int struck = key;
        same("strike(" + struck + ", " + time + ")", () -> tutor.strike(struck, time),
            () -> reference.strike(struck, time));
    }

    private void open() {
        int dice = random.nextInt(16);
        int words = number(7);
        int number = number(Math.max(0, reference.wordCount() - 1));
        if (dice == 0) {
            same("giveUp()", tutor::giveUp, reference::giveUp);
        } else if (dice < 8) {
            same("open(" + words + ")", () -> tutor.open(words), () -> reference.open(words));
        } else {
            same("openWord(" + number + ")", () -> tutor.openWord(number),
                () -> reference.openWord(number));
        }
    }

    private void ask() {
        int a = number(25);
        int b = number(25);
        int what = number(4);
        int kept = number(reference.lessons());
        switch (random.nextInt(10)) {
            case 0 -> same("areNeighbours(" + a + ", " + b + ")", () -> tutor.areNeighbours(a, b),
                () -> reference.areNeighbours(a, b));
            case 1 -> same("key(" + a + ", " + what + ")", () -> tutor.key(a, what),
                () -> reference.key(a, what));
            case 2 -> same("pair(" + a + ", " + b + ", " + what + ")",
                () -> tutor.pair(a, b, what), () -> reference.pair(a, b, what));
            case 3 -> same("mistakes(" + what + ")", () -> tutor.mistakes(what),
                () -> reference.mistakes(what));
            case 4 -> same("lesson(" + kept + ", " + what + ")", () -> tutor.lesson(kept, what),
                () -> reference.lesson(kept, what));
            case 5 -> same("weakest()", tutor::weakest, reference::weakest);
            case 6 -> same("pace()", tutor::pace, reference::pace);
            case 7 -> same("isPlateau()", tutor::isPlateau, reference::isPlateau);
            case 8 -> same("accuracy()", tutor::accuracy, reference::accuracy);
            default -> same("lessons()", tutor::lessons, reference::lessons);
        }
    }

    private void askOfLesson() {
        int index = number(6);
        int number = number(reference.wordCount());
        switch (random.nextInt(8)) {
            case 0 -> same("isOpen()", tutor::isOpen, reference::isOpen);
            case 1 -> same("wanted()", tutor::wanted, reference::wanted);
            case 2 -> same("done()", tutor::done, reference::done);
            case 3 -> same("lessonWord(" + index + ")", () -> tutor.lessonWord(index),
                () -> reference.lessonWord(index));
            case 4 -> same("wordCount()", tutor::wordCount, reference::wordCount);
            case 5 -> same("word(" + number + ")", () -> tutor.word(number),
                () -> reference.word(number));
            case 6 -> same("weight(" + number + ")", () -> tutor.weight(number),
                () -> reference.weight(number));
            default -> same("digest()", tutor::digest, reference::digest);
        }
    }

    private void same(String call, Supplier<Object> got, Supplier<Object> due) {
        check.same(call, answerOf(due), answerOf(got));
    }

    private static Object answerOf(Supplier<Object> call) {
        try {
            return call.get();
        } catch (RuntimeException e) {
            return "throws." + e.getClass().getSimpleName();
        }
    }
}
