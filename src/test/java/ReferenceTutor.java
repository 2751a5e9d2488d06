import java.util.ArrayList;
import java.util.HashSet;
import java.util.List;
import java.util.Set;
import java.util.TreeMap;

/**
 * The document once more, on texts and maps and with no thought of cost: what RandomRunsTest holds
 * the program against. It shares no code with the program.
 */
final class ReferenceTutor {
    private static final String[] ROWS = {"qwertyuiop", "asdfghjkl", "zxcvbnm"};

    private static final class Known {
        private int tries = 0;
        private int misses = 0;
        private int level = 500;
    }

    private final List<String> words = new ArrayList<>();
    private final TreeMap<String, Known> known = new TreeMap<>();
    private final int[] kinds = new int[5];
    private final List<int[]> history = new ArrayList<>();
    private int pace = 100;

    private List<Integer> lesson = null;
    private int wordIndex;
    private int letterIndex;
    private int missesHere;
    private int tried;
    private int clean;
    private int times;

    private static boolean isKey(int key) {
        return 0 <= key && key < 26;
    }

    private static String text(int... keys) {
        StringBuilder text = new StringBuilder();
        for (int key : keys) {
            text.append((char) ('a' + key));
        }
        return text.toString();
    }

    private static void index(boolean good) {
        if (!good) {
            throw new IndexOutOfBoundsException();
        }
    }

    private static void argument(boolean good) {
        if (!good) {
            throw new IllegalArgumentException();
        }
    }

    private static void state(boolean good) {
        if (!good) {
            throw new IllegalStateException();
        }
    }

    private Known of(String keys) {
        return known.getOrDefault(keys, new Known());
    }

    private int weakness(String pair) {
        return 1000 - of(pair).level + (of(pair).tries == 0 ? 200 : 0);
    }

    private static List<String> pairsOf(String word) {
        List<String> pairs = new ArrayList<>();
        for (int i = 0; i + 2 <= word.length(); i++) {
            pairs.add(word.substring(i, i + 2));
        }
        return pairs;
    }

    private int weightOf(String word) {
        if (word.length() == 1) {
            return 1000 - of(word).level;
        }
        return pairsOf(word).stream().mapToInt(this::weakness).sum() / pairsOf(word).size();
    }

    /** The text that a number tells, null if it tells none. */
    static String textOf(long word) {
        String text = new String(java.nio.ByteBuffer.allocate(8).putLong(word).array(),
            java.nio.charset.StandardCharsets.ISO_8859_1).replaceFirst("^\0+", "");
        return text.matches("[a-z]{1,8}") ? text : null;
    }

    int addWord(long word) {
        String text = textOf(word);
        argument(text != null);
        state(words.size() < 40 && !words.contains(text));
        words.add(text);
        return words.size() - 1;
    }

    int wordCount() {
        return words.size();
    }

    long word(int number) {
        index(number >= 0 && number < words.size());
        return Typing.number(words.get(number));
    }

    int weight(int number) {
        index(number >= 0 && number < words.size());
        return weightOf(words.get(number));
    }

    boolean areNeighbours(int a, int b) {
        index(isKey(a) && isKey(b));
        for (int row = 0; row < 3; row++) {
            int place = ROWS[row].indexOf('a' + a);
            for (int other = row - 1; place >= 0 && other <= row + 1; other++) {
                for (int near = place - 1; near <= place + 1; near++) {
                    boolean there = other >= 0 && other < 3 && near >= 0
                        && near < ROWS[other].length();
                    if (there && ROWS[other].charAt(near) == 'a' + b) {
                        return a != b;
                    }
                }
            }
        }
        return false;
    }

    private void start(List<Integer> numbers) {
        lesson = numbers;
        wordIndex = 0;
        letterIndex = 0;
        missesHere = 0;
        tried = 0;
        clean = 0;
        times = 0;
    }

    int open(int count) {
        argument(count >= 1 && count <= 6);
        state(lesson == null && !words.isEmpty());
        List<Integer> taken = new ArrayList<>();
        Set<String> pairs = new HashSet<>();
        while (taken.size() < count && taken.size() < words.size()) {
            int best = -1;
            long bestWeight = Long.MIN_VALUE;
            for (int number = 0; number < words.size(); number++) {
                String word = words.get(number);
                long again = pairsOf(word).stream().filter(pairs::contains).count();
                if (!taken.contains(number) && weightOf(word) - 150 * again > bestWeight) {
                    best = number;
                    bestWeight = weightOf(word) - 150 * again;
                }
            }
            taken.add(best);
            pairs.addAll(pairsOf(words.get(best)));
        }
        start(taken);
        return taken.size();
    }

    int openWord(int number) {
        index(number >= 0 && number < words.size());
        state(lesson == null);
        start(List.of(number));
        return words.get(number).length();
    }

    private int lettersOfLesson() {
        return lesson.stream().mapToInt(number -> words.get(number).length()).sum();
    }

    int giveUp() {
        state(lesson != null);
        int left = lettersOfLesson() - tried;
        lesson = null;
        return left;
    }

    boolean isOpen() {
        return lesson != null;
    }

    int lessonWord(int index) {
        state(lesson != null);
        index(index >= 0 && index < lesson.size());
        return lesson.get(index);
    }

    private String wordHere() {
        return words.get(lesson.get(wordIndex));
    }

    int wanted() {
        state(lesson != null);
        return wordHere().charAt(letterIndex) - 'a';
    }

    int done() {
        state(lesson != null);
        return tried;
    }

    int strike(int key, int time) {
        index(isKey(key));
        argument(time >= 1 && time <= 5000);
        state(lesson != null);
        times += time;
        int kind = kindOf(key);
        if (kind > 0) {
            kinds[kind]++;
            missesHere++;
        }
        if (kind == 0 || missesHere == 2) {
            goOn(time);
        }
        return kind;
    }

    private int kindOf(int key) {
        String word = wordHere();
        if (key == wanted()) {
            return 0;
        }
        if (word.startsWith(text(key), letterIndex + 1)) {
            return 1;
        }
        if (word.substring(0, letterIndex).endsWith(text(key))) {
            return 2;
        }
        return areNeighbours(key, wanted()) ? 3 : 4;
    }

    private void goOn(int time) {
        String word = wordHere();
        learn(text(wanted()), time);
        if (letterIndex > 0) {
            learn(word.substring(letterIndex - 1, letterIndex + 1), time);
        }
        tried++;
        clean += missesHere == 0 ? 1 : 0;
        missesHere = 0;
        letterIndex++;
        if (letterIndex == word.length()) {
            letterIndex = 0;
            wordIndex++;
        }
        if (wordIndex == lesson.size()) {
            finish();
        }
    }

    private void learn(String keys, int time) {
        Known it = known.computeIfAbsent(keys, unused -> new Known());
        int goal = missesHere > 0 ? 0 : Math.max(1000 - time / 5, 0);
        it.tries++;
        it.misses += missesHere > 0 ? 1 : 0;
        it.level += (goal - it.level) / 4;
    }

    private void finish() {
        int letters = lettersOfLesson();
        history.add(new int[] {letters, clean, times, letters * 60000 / times});
        if (100.0 * clean / letters >= 95) {
            pace += pace / 20 + 1;
        } else if (100.0 * clean / letters < 85) {
            pace -= pace / 10;
        }
        pace = pace < 20 ? 20 : pace > 900 ? 900 : pace;
        lesson = null;
    }

    private static int[] tell(Known it) {
        return new int[] {it.tries, it.misses, it.level};
    }

    int key(int key, int what) {
        index(isKey(key) && what >= 0 && what <= 2);
        return tell(of(text(key)))[what];
    }

    int pair(int first, int second, int what) {
        index(isKey(first) && isKey(second) && what >= 0 && what <= 3);
        String pair = text(first, second);
        return what == 3 ? weakness(pair) : tell(of(pair))[what];
    }

    int weakest() {
        String best = null;
        for (String pair : known.keySet()) {
            if (pair.length() == 2 && (best == null || weakness(pair) > weakness(best))) {
                best = pair;
            }
        }
        return best == null ? -1 : (best.charAt(0) - 'a') * 26 + best.charAt(1) - 'a';
    }

    int mistakes(int kind) {
        index(kind >= 1 && kind <= 4);
        return kinds[kind];
    }

    int lessons() {
        return history.size();
    }

    int lesson(int lesson, int what) {
        index(lesson >= 0 && lesson < history.size() && what >= 0 && what <= 3);
        return history.get(lesson)[what];
    }

    int pace() {
        return pace;
    }

    private int greatestSpeed(int from, int to) {
        return history.subList(from, to).stream().mapToInt(kept -> kept[3]).max().getAsInt();
    }

    boolean isPlateau() {
        int n = history.size();
        return n >= 6 && greatestSpeed(n - 3, n) <= greatestSpeed(n - 6, n - 3);
    }

    double accuracy() {
        double letters = history.stream().mapToInt(kept -> kept[0]).sum();
        return letters == 0 ? 1 : history.stream().mapToInt(kept -> kept[1]).sum() / letters;
    }

    long digest() {
        List<Long> numbers = new ArrayList<>();
        numbers.add((long) words.size());
        words.forEach(word -> numbers.add(Typing.number(word)));
        for (int key = 0; key < 26; key++) {
            add(numbers, tell(of(text(key))));
        }
        known.forEach((keys, it) -> {
            if (keys.length() == 2) {
                add(numbers, (keys.charAt(0) - 'a') * 26 + keys.charAt(1) - 'a');
                add(numbers, tell(it));
            }
        });
        add(numbers, kinds[1], kinds[2], kinds[3], kinds[4]);
        add(numbers, lesson == null ? 0 : 1);
        if (lesson != null) {
            add(numbers, lesson.size());
            lesson.forEach(number -> add(numbers, number));
            add(numbers, tried);
        }
        add(numbers, history.size());
        history.forEach(kept -> add(numbers, kept));
        add(numbers, pace);
        return numbers.stream().reduce(191L, (d, x) -> d * 31 + x);
    }

    private static void add(List<Long> numbers, int... more) {
        for (int number : more) {
            numbers.add((long) number);
        }
    }
}
