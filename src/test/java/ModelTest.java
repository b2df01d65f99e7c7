import java.math.BigInteger;
import java.util.ArrayList;
import java.util.HashSet;
import java.util.List;
import java.util.Map;
import java.util.Random;
import java.util.Set;
import java.util.TreeMap;

/** Long runs of calls, the same each time, against a model that is written from the document with the Java library. */
public final class ModelTest {
    private static final int RUNS = 3000;
    private static final String[] ALPHABETS = {
        "ab ", "aAbB19 .", "abcdefghijklmnopqrstuvwxyz0123456789 ,", "aaaaaaaB ", "a ",
    };
    private static final Check CHECK = new Check();

    /** The document's state and answers, told with texts, lists and fractions. */
    private static final class Model {
        record Doc(int label, List<String> words) { }

        record Change(int id, Doc doc, int blocks) { }

        private final int classes;
        private String text = "";
        private Map<Integer, Doc> force = new TreeMap<>();
        private Map<Integer, Doc> safe = new TreeMap<>();
        private final List<Change> log = new ArrayList<>();

        Model(int asked) {
            classes = asked < 2 ? 2 : asked > 4 ? 4 : asked;
        }

        int key(char c) {
            if (c < 32 || c > 126 || text.length() == 40) {
                return 0;
            }
            text += c;
            return 1;
        }

        int clear() {
            int had = text.length();
            text = "";
            return had;
        }

        List<String> words() {
            List<String> found = new ArrayList<>();
            for (String run : text.split("[^a-zA-Z0-9]+")) {
                if (!run.isEmpty()) {
                    found.add(run.substring(0, Math.min(8, run.length())).toLowerCase());
                }
            }
            return found;
        }

        int letter(int k, int i) {
            List<String> all = words();
            return k < 0 || k >= all.size() || i < 0 || i >= all.get(k).length() ? -1 : all.get(k).charAt(i);
        }

        boolean isClass(int c) {
            return c >= 0 && c < classes;
        }

        int train(int id, int label) {
            if (id < 0 || id > 31 || !isClass(label)) {
                return -1;
            }
            if (force.containsKey(id)) {
                return -2;
            }
            if (force.size() == 10) {
                return -4;
            }
            int blocks = 1 + (int) Math.ceil(words().size() / 4.0);
            if (pending() + blocks > 24) {
                return -5;
            }
            Doc doc = new Doc(label, words());
            log.add(new Change(id, doc, blocks));
            force.put(id, doc);
            return blocks;
        }

        int untrain(int id) {
            if (id < 0 || id > 31) {
                return -1;
            }
            if (!force.containsKey(id)) {
                return -3;
            }
            if (pending() == 24) {
                return -5;
            }
            log.add(new Change(id, null, 1));
            return force.remove(id).label();
        }

        int sync() {
            int had = pending();
            safe = new TreeMap<>(force);
            log.clear();
            return had;
        }

        int fail(int blocks) {
            long end = 0;
            int lost = 0;
            Map<Integer, Doc> found = new TreeMap<>(safe);
            for (Change change : log) {
                end += change.blocks();
                if (end > blocks) {
                    lost++;
                } else if (change.doc() == null) {
                    found.remove(change.id());
                } else {
                    found.put(change.id(), change.doc());
                }
            }
            force = found;
            sync();
            return lost;
        }

        int pending() {
            return log.stream().mapToInt(Change::blocks).sum();
        }

        List<Doc> of(int c) {
            return force.values().stream().filter(doc -> doc.label() == c).toList();
        }

        int documents(int c) {
            return c == -1 ? force.size() : isClass(c) ? of(c).size() : -1;
        }

        int total(int c) {
            return isClass(c) ? of(c).stream().mapToInt(doc -> doc.words().size()).sum() : -1;
        }

        int times(int c, String word) {
            return (int) of(c).stream().flatMap(doc -> doc.words().stream()).filter(word::equals).count();
        }

        int count(int c, int k) {
            return isClass(c) && k >= 0 && k < words().size() ? times(c, words().get(k)) : -1;
        }

        int vocabulary() {
            Set<String> different = new HashSet<>();
            force.values().forEach(doc -> different.addAll(doc.words()));
            return different.size();
        }

        int label(int id) {
            return force.containsKey(id) ? force.get(id).label() : -1;
        }

        BigInteger numerator(int c) {
            BigInteger product = BigInteger.valueOf(of(c).size());
            for (String word : words()) {
                product = product.multiply(BigInteger.valueOf(times(c, word) + 1));
            }
            return product;
        }

        BigInteger denominator(int c) {
            return BigInteger.valueOf(total(c) + vocabulary() + 1).pow(words().size());
        }

        int compare(int a, int b) {
            if (!isClass(a) || !isClass(b)) {
                return -2;
            }
            return numerator(a).multiply(denominator(b)).compareTo(numerator(b).multiply(denominator(a)));
        }

        int order(int k) {
            List<Integer> sorted = new ArrayList<>();
            for (int c = 0; c < classes; c++) {
                sorted.add(c);
            }
            // the sort is stable, so of equal ones the lesser stays first
            sorted.sort((a, b) -> compare(b, a));
            return isClass(k) ? sorted.get(k) : -1;
        }

        int classify() {
            return force.isEmpty() ? -1 : order(0);
        }
    }

    private final Random random;
    private final String alphabet;
    private final Model model;
    private final Counted program;
    private String at = "";

    private ModelTest(int run) {
        random = new Random(run);
        alphabet = ALPHABETS[random.nextInt(ALPHABETS.length)];
        int classes = random.nextInt(8) - 1;
        model = new Model(classes);
        program = new Counted(classes);
    }

    private void due(String call, int got, int want) {
        CHECK.due(at + call, got, want);
    }

    private int number(int least, int most) {
        return switch (random.nextInt(200)) {
            case 0 -> Integer.MIN_VALUE;
            case 1 -> Integer.MAX_VALUE;
            default -> least + random.nextInt(most - least + 1);
        };
    }

    private void key(char c) {
        due("key(" + (int) c + ")", program.key(c) ? 1 : 0, model.key(c));
    }

    private void keys() {
        int wanted = random.nextInt(6) == 0 ? 42 : 1 + random.nextInt(14);
        int many = Math.min(wanted, Counted.MOST_CALLS - program.calls());
        for (int i = 0; i < many; i++) {
            char ordinary = alphabet.charAt(random.nextInt(alphabet.length()));
            key(random.nextInt(150) == 0 ? (char) random.nextInt(300) : ordinary);
        }
    }

    private void change(int kind) {
        int id = random.nextInt(3) == 0 ? number(-1, 32) : number(0, 12);
        int label = random.nextInt(8) == 0 ? number(-1, 4) : number(0, 1);
        int blocks = number(-1, 25);
        switch (kind) {
            case 0 -> due("clear()", program.clear(), model.clear());
            case 1, 2, 3 -> due("train(" + id + ", " + label + ")", program.train(id, label), model.train(id, label));
            case 4 -> due("untrain(" + id + ")", program.untrain(id), model.untrain(id));
            case 5 -> due("sync()", program.sync(), model.sync());
            default -> due("fail(" + blocks + ")", program.fail(blocks), model.fail(blocks));
        }
    }

    private void ask(int kind) {
        int a = number(-2, 4);
        int b = number(-2, 4);
        int id = number(-1, 32);
        int k = number(-1, 20);
        int i = number(-1, 8);
        switch (kind) {
            case 0 -> due("words()", program.words(), model.words().size());
            case 1 -> due("letter(" + k + ", " + i + ")", program.letter(k, i), model.letter(k, i));
            case 2 -> due("pending()", program.pending(), model.pending());
            case 3 -> due("documents(" + a + ")", program.documents(a), model.documents(a));
            case 4 -> due("total(" + a + ")", program.total(a), model.total(a));
            case 5 -> due("count(" + a + ", " + k + ")", program.count(a, k), model.count(a, k));
            case 6 -> due("vocabulary()", program.vocabulary(), model.vocabulary());
            case 7 -> due("label(" + id + ")", program.label(id), model.label(id));
            case 8 -> due("classify()", program.classify(), model.classify());
            case 9 -> due("order(" + a + ")", program.order(a), model.order(a));
            default -> due("compare(" + a + ", " + b + ")", program.compare(a, b), model.compare(a, b));
        }
    }

    private void run(int run) {
        while (program.calls() < Counted.MOST_CALLS) {
            at = "run " + run + " call " + (program.calls() + 1) + ": ";
            int what = random.nextInt(10);
            if (what == 0) {
                keys();
            } else if (what < 5) {
                // a failure more seldom than the others, or few documents would ever stand together
                change(random.nextInt(19) / 3);
            } else {
                ask(random.nextInt(11));
            }
        }
    }

    public static void main(String[] args) {
        for (int run = 0; run < RUNS; run++) {
            new ModelTest(run).run(run);
        }
        CHECK.end();
    }
}
