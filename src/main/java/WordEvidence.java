import java.util.Arrays;

/** Sorts texts into classes by the words of texts whose class is known, and keeps what it learned in a log. */
public final class WordEvidence {
    public static final int NONE = -1;
    public static final int PRESENT = -2;
    public static final int ABSENT = -3;
    public static final int MANY = -4;
    public static final int FULL = -5;

    private static final int ALL_CLASSES = -1;
    private static final int NOT_COMPARABLE = -2;

    private static final int LEAST_CLASSES = 2;
    private static final int MOST_CLASSES = 4;
    private static final int MOST_CHARACTERS = 40;
    // Between two words stands at least one other character, so 40 characters hold no more words than this.
    private static final int MOST_WORDS = 20;
    private static final int WORD_LENGTH = 8;
    private static final int IDS = 32;
    private static final int MOST_DOCUMENTS = 10;
    private static final int LOG_ROOM = 24;
    private static final int WORDS_IN_A_BLOCK = 4;

    private final int classes;
    private final Text text = new Text();
    private final Shelf inForce = new Shelf();
    private final Shelf safe = new Shelf();
    private final Log log = new Log();
    private final Chances chances = new Chances();

    public WordEvidence(int classes) {
        this.classes = Math.max(LEAST_CLASSES, Math.min(MOST_CLASSES, classes));
    }

    public boolean key(char c) {
        return text.append(c);
    }

    public int clear() {
        return text.empty();
    }

    public int words() {
        return text.wordCount;
    }

    public int letter(int k, int i) {
        if (!text.hasWord(k)) {
            return NONE;
        }
        return Letters.at(text.words[k], i);
    }

    public int train(int id, int label) {
        if (!isId(id) || !isClass(label)) {
            return NONE;
        }
        if (inForce.find(id) != null) {
            return PRESENT;
        }
        if (inForce.size() >= MOST_DOCUMENTS) {
            return MANY;
        }
        int blocks = blocksToTrain(text.wordCount);
        if (!log.hasRoomFor(blocks)) {
            return FULL;
        }
        change(id, new Document(label, text.copyOfWords()), blocks);
        return blocks;
    }

    public int untrain(int id) {
        if (!isId(id)) {
            return NONE;
        }
        Document document = inForce.find(id);
        if (document == null) {
            return ABSENT;
        }
        if (!log.hasRoomFor(1)) {
            return FULL;
        }
        change(id, null, 1);
        return document.classNumber;
    }

    public int sync() {
        safe.copyFrom(inForce);
        return log.empty();
    }

    public int fail(int blocks) {
        int lost = log.replayOn(safe, blocks);
        inForce.copyFrom(safe);
        log.empty();
        return lost;
    }

    public int pending() {
        return log.pendingBlocks;
    }

    public int documents(int c) {
        if (c == ALL_CLASSES) {
            return inForce.size();
        }
        return isClass(c) ? inForce.documentsOf(c) : NONE;
    }

    public int total(int c) {
        return isClass(c) ? inForce.wordsOf(c) : NONE;
    }

    public int count(int c, int k) {
        if (!isClass(c) || !text.hasWord(k)) {
            return NONE;
        }
        return inForce.timesOf(c, text.words[k]);
    }

    public int vocabulary() {
        return inForce.differentWords();
    }

    public int label(int id) {
        Document document = inForce.find(id);
        return document == null ? NONE : document.classNumber;
    }

    public int classify() {
        return inForce.size() == 0 ? NONE : order(0);
    }

    public int order(int k) {
        if (!isClass(k)) {
            return NONE;
        }
        chances.weigh(inForce, text, classes);
        return chances.classAt(k);
    }

    public int compare(int a, int b) {
        if (!isClass(a) || !isClass(b)) {
            return NOT_COMPARABLE;
        }
        chances.weigh(inForce, text, classes);
        return chances.signOf(a, b);
    }

    private boolean isClass(int c) {
        return c >= 0 && c < classes;
    }

    private static boolean isId(int id) {
        return id >= 0 && id < IDS;
    }

    private static int blocksToTrain(int wordCount) {
        return 1 + (wordCount + WORDS_IN_A_BLOCK - 1) / WORDS_IN_A_BLOCK;
    }

    /** Puts the document in force under the id, or takes the one there away when it is null. */
    private void change(int id, Document document, int blocks) {
        log.write(id, document, blocks);
        inForce.put(id, document);
    }

    /**
     * A word is a long: eight codes of eight bits, the first lowest, 0 behind the last. So two words are the same
     * when the numbers are, and a word costs no object.
     */
    private static final class Letters {
        private static final int CODE_BITS = 8;
        private static final int CODE_MASK = 255;

        /** The code as it stands in a word, capital letters as small ones; NONE when it parts words. */
        static int fold(char c) {
            if (c >= 'A' && c <= 'Z') {
                return c - 'A' + 'a';
            }
            boolean belongs = c >= 'a' && c <= 'z' || c >= '0' && c <= '9';
            return belongs ? c : NONE;
        }

        static long with(long word, int i, int code) {
            return word | (long) code << (CODE_BITS * i);
        }

        static int at(long word, int i) {
            if (i < 0 || i >= WORD_LENGTH) {
                return NONE;
            }
            int code = (int) (word >>> (CODE_BITS * i)) & CODE_MASK;
            return code == 0 ? NONE : code;
        }
    }

    /** Keeps only the length and the words: nothing that is asked of a text needs its other characters. */
    private static final class Text {
        final long[] words = new long[MOST_WORDS];
        int wordCount = 0;
        private int length = 0;
        private int runLength = 0;

        boolean append(char c) {
            if (c < 32 || c > 126 || length >= MOST_CHARACTERS) {
                return false;
            }
            length++;
            int code = Letters.fold(c);
            if (code == NONE) {
                runLength = 0;
            } else {
                lengthenRun(code);
            }
            return true;
        }

        private void lengthenRun(int code) {
            if (runLength == 0 && wordCount < MOST_WORDS) {
                words[wordCount] = 0;
                wordCount++;
            }
            if (runLength < WORD_LENGTH && wordCount > 0) {
                int last = wordCount - 1;
                words[last] = Letters.with(words[last], runLength, code);
            }
            runLength++;
        }

        int empty() {
            int had = length;
            length = 0;
            runLength = 0;
            wordCount = 0;
            return had;
        }

        boolean hasWord(int k) {
            return k >= 0 && k < wordCount;
        }

        long[] copyOfWords() {
            return Arrays.copyOf(words, wordCount);
        }
    }

    /** Never changes once made, so that the shelves and the log can share it. */
    private static final class Document {
        final int classNumber;
        final long[] words;

        Document(int classNumber, long[] words) {
            this.classNumber = classNumber;
            this.words = words;
        }

        int timesOf(long word) {
            int times = 0;
            for (long own : words) {
                if (own == word) {
                    times++;
                }
            }
            return times;
        }
    }

    /** A set of documents, each at the place of its id. */
    private static final class Shelf {
        private final Document[] byId = new Document[IDS];
        private final long[] seen = new long[MOST_DOCUMENTS * MOST_WORDS];

        Document find(int id) {
            return isId(id) ? byId[id] : null;
        }

        void put(int id, Document document) {
            if (isId(id)) {
                byId[id] = document;
            }
        }

        void copyFrom(Shelf other) {
            for (int id = 0; id < IDS; id++) {
                byId[id] = other.byId[id];
            }
        }

        int size() {
            int size = 0;
            for (Document document : byId) {
                if (document != null) {
                    size++;
                }
            }
            return size;
        }

        int documentsOf(int c) {
            int found = 0;
            for (Document document : byId) {
                if (document != null && document.classNumber == c) {
                    found++;
                }
            }
            return found;
        }

        int wordsOf(int c) {
            int sum = 0;
            for (Document document : byId) {
                if (document != null && document.classNumber == c) {
                    sum += document.words.length;
                }
            }
            return sum;
        }

        int timesOf(int c, long word) {
            int sum = 0;
            for (Document document : byId) {
                if (document != null && document.classNumber == c) {
                    sum += document.timesOf(word);
                }
            }
            return sum;
        }

        int differentWords() {
            int different = 0;
            for (Document document : byId) {
                if (document != null) {
                    different = noteNewWords(document, different);
                }
            }
            return different;
        }

        private int noteNewWords(Document document, int seenBefore) {
            int different = seenBefore;
            for (long word : document.words) {
                if (different < seen.length && !isSeen(word, different)) {
                    seen[different] = word;
                    different++;
                }
            }
            return different;
        }

        private boolean isSeen(long word, int different) {
            for (int i = 0; i < different; i++) {
                if (seen[i] == word) {
                    return true;
                }
            }
            return false;
        }
    }

    /** The changes since what is safe. Each takes a block at least, so there are no more of them than blocks. */
    private static final class Log {
        private final int[] ids = new int[LOG_ROOM];
        private final int[] blocks = new int[LOG_ROOM];
        // null where the change took the document away
        private final Document[] placed = new Document[LOG_ROOM];
        private int changes = 0;
        int pendingBlocks = 0;

        boolean hasRoomFor(int more) {
            return pendingBlocks + more <= LOG_ROOM;
        }

        void write(int id, Document document, int takes) {
            if (changes < LOG_ROOM) {
                ids[changes] = id;
                placed[changes] = document;
                blocks[changes] = takes;
                changes++;
                pendingBlocks += takes;
            }
        }

        /** Answers how many changes are lost when only so many blocks have reached the disk. */
        int replayOn(Shelf shelf, int reached) {
            int left = reached;
            int done = 0;
            while (done < changes && blocks[done] <= left) {
                shelf.put(ids[done], placed[done]);
                left -= blocks[done];
                done++;
            }
            return changes - done;
        }

        int empty() {
            int had = pendingBlocks;
            changes = 0;
            pendingBlocks = 0;
            return had;
        }
    }

    /** The chances of the classes for a text, kept as the factors of their fractions. */
    private static final class Chances {
        private final int[] documents = new int[MOST_CLASSES];
        private final int[][] numerators = new int[MOST_CLASSES][MOST_WORDS];
        private final int[] denominators = new int[MOST_CLASSES];
        private final Product left = new Product();
        private final Product right = new Product();
        private int classes = 0;
        private int wordCount = 0;

        void weigh(Shelf shelf, Text text, int classCount) {
            classes = classCount;
            wordCount = text.wordCount;
            int different = shelf.differentWords();
            for (int c = 0; c < classes; c++) {
                documents[c] = shelf.documentsOf(c);
                denominators[c] = shelf.wordsOf(c) + different + 1;
                for (int k = 0; k < wordCount; k++) {
                    numerators[c][k] = shelf.timesOf(c, text.words[k]) + 1;
                }
            }
        }

        int classAt(int place) {
            for (int c = 0; c < classes; c++) {
                if (placeOf(c) == place) {
                    return c;
                }
            }
            return NONE;
        }

        private int placeOf(int c) {
            int before = 0;
            for (int other = 0; other < classes; other++) {
                int sign = signOf(other, c);
                if (sign > 0 || sign == 0 && other < c) {
                    before++;
                }
            }
            return before;
        }

        /** Multiplies each side by the other's denominators, so that whole numbers are compared. */
        int signOf(int a, int b) {
            multiplyOut(left, a, b);
            multiplyOut(right, b, a);
            return left.signAgainst(right);
        }

        private void multiplyOut(Product product, int own, int other) {
            product.start(documents[own]);
            for (int k = 0; k < wordCount; k++) {
                product.times(numerators[own][k]);
                product.times(denominators[other]);
            }
        }
    }

    /**
     * A whole number of 384 bits. The greatest that can be needed has 330: 10 documents, and for each of 20 words a
     * numerator up to 201 and a denominator up to 401.
     */
    private static final class Product {
        private static final int LIMBS = 12;
        private static final int LIMB_BITS = 32;
        private static final long LIMB_MASK = 0xFFFFFFFFL;

        private final long[] limbs = new long[LIMBS];

        void start(int value) {
            Arrays.fill(limbs, 0L);
            limbs[0] = value;
        }

        void times(int factor) {
            long carry = 0;
            for (int i = 0; i < LIMBS; i++) {
                long sum = limbs[i] * factor + carry;
                limbs[i] = sum & LIMB_MASK;
                carry = sum >>> LIMB_BITS;
            }
        }

        int signAgainst(Product other) {
            for (int i = LIMBS - 1; i >= 0; i--) {
                if (limbs[i] != other.limbs[i]) {
                    return limbs[i] > other.limbs[i] ? 1 : -1;
                }
            }
            return 0;
        }
    }
}
