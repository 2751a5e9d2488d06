import java.util.Arrays;

/**
 * A tutor for typing. It watches keystrokes against lessons, tells apart kinds of mistakes, keeps
 * what it knows of each key and of each pair of keys, makes lessons of words with weak pairs,
 * advises a pace, and sees when there is no more progress.
 */
public final class TypingTutor {

    private static final int KEYS = 26;
    private static final int PAIRS = KEYS * KEYS;
    private static final int MOST_WORDS = 40;
    private static final int MOST_LETTERS = 8;
    private static final int MOST_LESSON_WORDS = 6;
    private static final int MOST_TIME = 5000;

    private static final int RIGHT = 0;
    private static final int SWAP = 1;
    private static final int DOUBLE = 2;
    private static final int NEAR = 3;
    private static final int OTHER = 4;
    private static final int MOST_MISTAKES_AT_LETTER = 2;

    private static final int FULL_LEVEL = 1000;
    private static final int FIRST_LEVEL = 500;
    private static final int NEVER_TRIED_WEAKNESS = 200;
    private static final int REPEATED_PAIR_COST = 150;

    // A finished lesson takes two calls at least, and its word one before it: the 512 calls of an
    // object's life can't finish more than 255.
    private static final int MOST_LESSONS = 256;
    private static final int MILLISECONDS_A_MINUTE = 60000;
    private static final int FIRST_PACE = 100;
    private static final int LEAST_PACE = 20;
    private static final int MOST_PACE = 900;
    private static final int PLATEAU_SPAN = 3;

    private static final int NONE = -1;

    /** For each key, a to z, its row on the keyboard and its place in that row. */
    private static final int[] KEY_ROW = {
        1, 2, 2, 1, 0, 1, 1, 1, 0, 1, 1, 1, 2, 2, 0, 0, 0, 0, 1, 0, 0, 2, 0, 2, 0, 2};
    private static final int[] KEY_PLACE = {
        0, 4, 2, 2, 2, 3, 4, 5, 7, 6, 7, 8, 6, 5, 8, 9, 0, 3, 1, 4, 6, 3, 1, 1, 5, 0};

    private final WordList list = new WordList();
    private final Knowledge keys = new Knowledge(KEYS);
    private final Knowledge pairs = new Knowledge(PAIRS);
    private final Lesson current = new Lesson();
    private final History past = new History();
    private final int[] mistakeCounts = new int[OTHER + 1];

    public TypingTutor() {
    }

    // ---- words

    public int addWord(long word) throws IllegalArgumentException, IllegalStateException {
        if (!tellsWord(word)) {
            throw new IllegalArgumentException("this number tells no word");
        }
        if (list.isFull() || list.holds(word)) {
            throw new IllegalStateException("the list is full, or has this word");
        }
        return list.append(word);
    }

    public int wordCount() {
        return list.size();
    }

    public long word(int number) throws IndexOutOfBoundsException {
        if (!list.hasNumber(number)) {
            throw new IndexOutOfBoundsException("no such word");
        }
        return list.wordAt(number);
    }

    public int weight(int number) throws IndexOutOfBoundsException {
        if (!list.hasNumber(number)) {
            throw new IndexOutOfBoundsException("no such word");
        }
        return weightOf(list.wordAt(number));
    }

    public boolean areNeighbours(int a, int b) throws IndexOutOfBoundsException {
        if (!isKey(a) || !isKey(b)) {
            throw new IndexOutOfBoundsException("no such key");
        }
        return standSideBySide(a, b);
    }

    // ---- lessons

    public int open(int words) throws IllegalArgumentException, IllegalStateException {
        if (words < 1 || words > MOST_LESSON_WORDS) {
            throw new IllegalArgumentException("a lesson has 1 to 6 words");
        }
        if (current.isRunning() || list.size() == 0) {
            throw new IllegalStateException("a lesson is open, or there are no words");
        }
        current.start();
        for (int i = 0; i < words; i++) {
            int number = weakestWordLeft();
            if (number == NONE) {
                break;
            }
            current.append(number, list.wordAt(number));
        }
        return current.wordTotal();
    }

    public int openWord(int number) throws IndexOutOfBoundsException, IllegalStateException {
        if (!list.hasNumber(number)) {
            throw new IndexOutOfBoundsException("no such word");
        }
        if (current.isRunning()) {
            throw new IllegalStateException("a lesson is open");
        }
        current.start();
        current.append(number, list.wordAt(number));
        return current.letterTotal();
    }

    public int giveUp() throws IllegalStateException {
        if (!current.isRunning()) {
            throw new IllegalStateException("no lesson is open");
        }
        current.stop();
        return current.letterTotal() - current.triedTotal();
    }

    public boolean isOpen() {
        return current.isRunning();
    }

    public int lessonWord(int index) throws IllegalStateException, IndexOutOfBoundsException {
        if (!current.isRunning()) {
            throw new IllegalStateException("no lesson is open");
        }
        if (index < 0 || index >= current.wordTotal()) {
            throw new IndexOutOfBoundsException("no such word of the lesson");
        }
        return current.numberAt(index);
    }

    public int wanted() throws IllegalStateException {
        if (!current.isRunning()) {
            throw new IllegalStateException("no lesson is open");
        }
        return current.letterHere();
    }

    public int done() throws IllegalStateException {
        if (!current.isRunning()) {
            throw new IllegalStateException("no lesson is open");
        }
        return current.triedTotal();
    }

    public int strike(int key, int time)
            throws IndexOutOfBoundsException, IllegalArgumentException, IllegalStateException {
        if (!isKey(key)) {
            throw new IndexOutOfBoundsException("no such key");
        }
        if (time < 1 || time > MOST_TIME) {
            throw new IllegalArgumentException("a time is 1 to 5000");
        }
        if (!current.isRunning()) {
            throw new IllegalStateException("no lesson is open");
        }
        int kind = kindOfStroke(key);
        current.noteStroke(kind, time);
        if (kind != RIGHT) {
            write(mistakeCounts, kind, read(mistakeCounts, kind) + 1);
        }
        if (kind == RIGHT || current.mistakesHere() >= MOST_MISTAKES_AT_LETTER) {
            tryLetter(time);
        }
        return kind;
    }

    // ---- what is known

    public int key(int key, int what) throws IndexOutOfBoundsException {
        if (!isKey(key) || what < 0 || what > 2) {
            throw new IndexOutOfBoundsException("no such key, or nothing such is known");
        }
        return keys.tell(key, what);
    }

    public int pair(int first, int second, int what) throws IndexOutOfBoundsException {
        if (!isKey(first) || !isKey(second) || what < 0 || what > 3) {
            throw new IndexOutOfBoundsException("no such pair, or nothing such is known");
        }
        int pair = pairOf(first, second);
        return what == 3 ? weaknessOf(pair) : pairs.tell(pair, what);
    }

    public int weakest() {
        int best = NONE;
        for (int pair = 0; pair < PAIRS; pair++) {
            if (pairs.triesOf(pair) > 0 && (best == NONE || weaknessOf(pair) > weaknessOf(best))) {
                best = pair;
            }
        }
        return best;
    }

    public int mistakes(int kind) throws IndexOutOfBoundsException {
        if (kind < SWAP || kind > OTHER) {
            throw new IndexOutOfBoundsException("no such kind of mistakes");
        }
        return read(mistakeCounts, kind);
    }

    // ---- history

    public int lessons() {
        return past.size();
    }

    public int lesson(int lesson, int what) throws IndexOutOfBoundsException {
        if (lesson < 0 || lesson >= past.size() || what < 0 || what > 3) {
            throw new IndexOutOfBoundsException("no such lesson, or nothing such is kept");
        }
        return past.tell(lesson, what);
    }

    public int pace() {
        return past.advisedPace();
    }

    public boolean isPlateau() {
        int count = past.size();
        if (count < 2 * PLATEAU_SPAN) {
            return false;
        }
        int latest = past.greatestSpeed(count - PLATEAU_SPAN, count);
        int earlier = past.greatestSpeed(count - 2 * PLATEAU_SPAN, count - PLATEAU_SPAN);
        return latest <= earlier;
    }

    public double accuracy() {
        int letters = past.letterSum();
        return letters > 0 ? (double) past.cleanSum() / letters : 1.0;
    }

    public long digest() {
        long d = digestOfWords(191);
        d = digestOfKnowledge(d);
        d = digestOfLesson(d);
        return digestOfHistory(d);
    }

    // ---- rows that are looked at before they are used

    private static int read(int[] row, int index) {
        return index >= 0 && index < row.length ? row[index] : 0;
    }

    private static void write(int[] row, int index, int value) {
        if (index >= 0 && index < row.length) {
            row[index] = value;
        }
    }

    // ---- keys, pairs and words

    private static boolean isKey(int key) {
        return key >= 0 && key < KEYS;
    }

    private static int pairOf(int first, int second) {
        return KEYS * first + second;
    }

    private static boolean standSideBySide(int a, int b) {
        int rows = Math.abs(read(KEY_ROW, a) - read(KEY_ROW, b));
        int places = Math.abs(read(KEY_PLACE, a) - read(KEY_PLACE, b));
        return rows == 0 ? places == 1 : rows == 1 && places <= 1;
    }

    private static boolean tellsWord(long word) {
        long rest = word;
        for (int i = 0; i < MOST_LETTERS && rest != 0; i++) {
            long sign = rest & 255;
            if (sign < 'a' || sign > 'z') {
                return false;
            }
            rest = rest >>> 8;
        }
        return word != 0;
    }

    private static int lengthOf(long word) {
        int letters = 0;
        while (letters < MOST_LETTERS && word >>> (8 * letters) != 0) {
            letters++;
        }
        return letters;
    }

    private static int letterOf(long word, int length, int place) {
        return (int) ((word >>> (8 * (length - 1 - place))) & 255) - 'a';
    }

    /** The pair whose second letter stands at this place of the word, which is not its first. */
    private static int pairAt(long word, int length, int place) {
        return pairOf(letterOf(word, length, place - 1), letterOf(word, length, place));
    }

    private int weaknessOf(int pair) {
        int weakness = FULL_LEVEL - pairs.levelOf(pair);
        return pairs.triesOf(pair) == 0 ? weakness + NEVER_TRIED_WEAKNESS : weakness;
    }

    private int weightOf(long word) {
        int length = lengthOf(word);
        if (length <= 1) {
            return FULL_LEVEL - keys.levelOf(letterOf(word, length, 0));
        }
        int sum = 0;
        for (int place = 1; place < length; place++) {
            sum += weaknessOf(pairAt(word, length, place));
        }
        return sum / (length - 1);
    }

    // ---- making lessons

    /** The number of the word that the lesson takes next, NONE if it has them all. */
    private int weakestWordLeft() {
        int best = NONE;
        int bestWeight = 0;
        for (int number = 0; number < list.size(); number++) {
            if (current.hasWord(number)) {
                continue;
            }
            int weight = weightInLesson(list.wordAt(number));
            if (best == NONE || weight > bestWeight) {
                best = number;
                bestWeight = weight;
            }
        }
        return best;
    }

    private int weightInLesson(long word) {
        int length = lengthOf(word);
        int weight = weightOf(word);
        for (int place = 1; place < length; place++) {
            int first = letterOf(word, length, place - 1);
            int second = letterOf(word, length, place);
            if (current.hasPair(first, second)) {
                weight -= REPEATED_PAIR_COST;
            }
        }
        return weight;
    }

    // ---- strokes

    private int kindOfStroke(int key) {
        int wantedKey = current.letterHere();
        if (key == wantedKey) {
            return RIGHT;
        }
        if (key == current.letterAfter()) {
            return SWAP;
        }
        if (key == current.letterBefore()) {
            return DOUBLE;
        }
        return standSideBySide(key, wantedKey) ? NEAR : OTHER;
    }

    /** The wanted letter is typed or passed over: learns of it and goes on to the next one. */
    private void tryLetter(int time) {
        boolean clean = current.mistakesHere() == 0;
        int letter = current.letterHere();
        int before = current.letterBefore();
        keys.learn(letter, clean, time);
        if (before != NONE) {
            pairs.learn(pairOf(before, letter), clean, time);
        }
        current.goOn(clean);
        if (current.triedTotal() >= current.letterTotal()) {
            current.stop();
            past.keep(current.letterTotal(), current.cleanTotal(), current.timeSum());
        }
    }

    // ---- digest

    private static long mixed(long d, long x) {
        return d * 31 + x;
    }

    private long digestOfWords(long start) {
        long d = mixed(start, list.size());
        for (int number = 0; number < list.size(); number++) {
            d = mixed(d, list.wordAt(number));
        }
        return d;
    }

    private long digestOfKnowledge(long start) {
        long d = start;
        for (int key = 0; key < KEYS; key++) {
            d = digestOfRecord(d, keys, key);
        }
        for (int pair = 0; pair < PAIRS; pair++) {
            if (pairs.triesOf(pair) > 0) {
                d = digestOfRecord(mixed(d, pair), pairs, pair);
            }
        }
        for (int kind = SWAP; kind <= OTHER; kind++) {
            d = mixed(d, read(mistakeCounts, kind));
        }
        return d;
    }

    private static long digestOfRecord(long start, Knowledge knowledge, int index) {
        long d = start;
        for (int what = 0; what <= 2; what++) {
            d = mixed(d, knowledge.tell(index, what));
        }
        return d;
    }

    private long digestOfLesson(long start) {
        if (!current.isRunning()) {
            return mixed(start, 0);
        }
        long d = mixed(mixed(start, 1), current.wordTotal());
        for (int index = 0; index < current.wordTotal(); index++) {
            d = mixed(d, current.numberAt(index));
        }
        return mixed(d, current.triedTotal());
    }

    private long digestOfHistory(long start) {
        long d = mixed(start, past.size());
        for (int index = 0; index < past.size(); index++) {
            for (int what = 0; what <= 3; what++) {
                d = mixed(d, past.tell(index, what));
            }
        }
        return mixed(d, past.advisedPace());
    }

    /** The words in the order in which they were added. */
    private static final class WordList {
        private final long[] words = new long[MOST_WORDS];
        private int count = 0;

        int size() {
            return count;
        }

        boolean isFull() {
            return count >= words.length;
        }

        boolean hasNumber(int number) {
            return number >= 0 && number < count;
        }

        boolean holds(long word) {
            for (int number = 0; number < count; number++) {
                if (wordAt(number) == word) {
                    return true;
                }
            }
            return false;
        }

        long wordAt(int number) {
            return number >= 0 && number < words.length ? words[number] : 0;
        }

        /** Returns the number that the word gets. */
        int append(long word) {
            if (count < 0 || count >= words.length) {
                return NONE;
            }
            words[count] = word;
            count++;
            return count - 1;
        }
    }

    /** What is known of each key, or of each pair of keys. */
    private static final class Knowledge {
        private final int[] tries;
        private final int[] misses;
        private final int[] levels;

        Knowledge(int size) {
            int rows = Math.max(0, size);
            tries = new int[rows];
            misses = new int[rows];
            levels = new int[rows];
            Arrays.fill(levels, FIRST_LEVEL);
        }

        int triesOf(int index) {
            return read(tries, index);
        }

        int levelOf(int index) {
            return read(levels, index);
        }

        /** 0 the tries, 1 the mistakes, 2 the level. */
        int tell(int index, int what) {
            switch (what) {
                case 0:
                    return read(tries, index);
                case 1:
                    return read(misses, index);
                default:
                    return read(levels, index);
            }
        }

        void learn(int index, boolean clean, int time) {
            int goal = clean ? Math.max(0, FULL_LEVEL - time / 5) : 0;
            int level = read(levels, index);
            write(tries, index, read(tries, index) + 1);
            if (!clean) {
                write(misses, index, read(misses, index) + 1);
            }
            write(levels, index, level + (goal - level) / 4);
        }
    }

    /**
     * The lesson that is open, or was last. All its letters stand in one row; each is tried once,
     * so that the number of those tried is the place of the wanted one.
     */
    private static final class Lesson {
        private final int[] numbers = new int[MOST_LESSON_WORDS];
        private final int[] letters = new int[MOST_LESSON_WORDS * MOST_LETTERS];
        /** For each letter, which word of the lesson it belongs to. */
        private final int[] owners = new int[MOST_LESSON_WORDS * MOST_LETTERS];
        /** For each key, a bit for every key that follows it in a word of the lesson. */
        private final int[] followers = new int[KEYS];
        private boolean running = false;
        private int wordCount = 0;
        private int letterCount = 0;
        private int tried = 0;
        private int clean = 0;
        private int times = 0;
        private int misses = 0;

        boolean isRunning() {
            return running;
        }

        int wordTotal() {
            return wordCount;
        }

        int letterTotal() {
            return letterCount;
        }

        int triedTotal() {
            return tried;
        }

        int cleanTotal() {
            return clean;
        }

        int timeSum() {
            return times;
        }

        int mistakesHere() {
            return misses;
        }

        int numberAt(int index) {
            return read(numbers, index);
        }

        int letterHere() {
            return read(letters, tried);
        }

        /** The letter that the document calls the one ahead of the wanted one; NONE if none. */
        int letterBefore() {
            return letterInSameWord(tried - 1);
        }

        /** The letter that the document calls the one behind the wanted one; NONE if none. */
        int letterAfter() {
            return letterInSameWord(tried + 1);
        }

        private int letterInSameWord(int place) {
            if (place < 0 || place >= letterCount || read(owners, place) != read(owners, tried)) {
                return NONE;
            }
            return read(letters, place);
        }

        boolean hasWord(int number) {
            for (int index = 0; index < wordCount; index++) {
                if (read(numbers, index) == number) {
                    return true;
                }
            }
            return false;
        }

        boolean hasPair(int first, int second) {
            return (read(followers, first) & (1 << second)) != 0;
        }

        void start() {
            Arrays.fill(followers, 0);
            running = true;
            wordCount = 0;
            letterCount = 0;
            tried = 0;
            clean = 0;
            times = 0;
            misses = 0;
        }

        void append(int number, long word) {
            int length = lengthOf(word);
            for (int place = 0; place < length; place++) {
                int letter = letterOf(word, length, place);
                if (place > 0) {
                    int before = letterOf(word, length, place - 1);
                    write(followers, before, read(followers, before) | (1 << letter));
                }
                write(letters, letterCount, letter);
                write(owners, letterCount, wordCount);
                letterCount++;
            }
            write(numbers, wordCount, number);
            wordCount++;
        }

        void noteStroke(int kind, int time) {
            times += time;
            if (kind != RIGHT) {
                misses++;
            }
        }

        void goOn(boolean wasClean) {
            tried++;
            misses = 0;
            if (wasClean) {
                clean++;
            }
        }

        void stop() {
            running = false;
        }
    }

    /** The lessons that were finished, and the pace that follows from them. */
    private static final class History {
        private final int[] letters = new int[MOST_LESSONS];
        private final int[] cleans = new int[MOST_LESSONS];
        private final int[] times = new int[MOST_LESSONS];
        private int count = 0;
        private int pace = FIRST_PACE;
        private int letterSum = 0;
        private int cleanSum = 0;

        int size() {
            return count;
        }

        int advisedPace() {
            return pace;
        }

        int letterSum() {
            return letterSum;
        }

        int cleanSum() {
            return cleanSum;
        }

        /** 0 the letters, 1 how many of them were clean, 2 the sum of the times, 3 the speed. */
        int tell(int index, int what) {
            switch (what) {
                case 0:
                    return read(letters, index);
                case 1:
                    return read(cleans, index);
                case 2:
                    return read(times, index);
                default:
                    return speedOf(index);
            }
        }

        private int speedOf(int index) {
            int time = read(times, index);
            return time > 0 ? read(letters, index) * MILLISECONDS_A_MINUTE / time : 0;
        }

        /** The greatest speed of the lessons from this one to the one before end. */
        int greatestSpeed(int start, int end) {
            int greatest = 0;
            for (int index = start; index < end; index++) {
                greatest = Math.max(greatest, speedOf(index));
            }
            return greatest;
        }

        void keep(int letterTotal, int cleanTotal, int timeSum) {
            if (count >= MOST_LESSONS) {
                return;
            }
            write(letters, count, letterTotal);
            write(cleans, count, cleanTotal);
            write(times, count, timeSum);
            count++;
            letterSum += letterTotal;
            cleanSum += cleanTotal;
            pace = paceBehind(letterTotal, cleanTotal);
        }

        private int paceBehind(int letterTotal, int cleanTotal) {
            int next = pace;
            if (cleanTotal * 100 >= letterTotal * 95) {
                next = pace + pace / 20 + 1;
            } else if (cleanTotal * 100 < letterTotal * 85) {
                next = pace - pace / 10;
            }
            return Math.min(MOST_PACE, Math.max(LEAST_PACE, next));
        }
    }
}
