/** All that can be asked of an object without changing it, as one text. */
final class Snapshot {
    private Snapshot() {
    }

    static String of(Counted x) {
        StringBuilder all = new StringBuilder();
        int words = x.words();
        all.append("words ").append(words).append(", pending ").append(x.pending());
        for (int k = 0; k < words; k++) {
            all.append(", letter ").append(x.letter(k, 0));
        }
        all.append(", vocabulary ").append(x.vocabulary()).append(", classify ").append(x.classify());
        for (int id = 0; id < 32; id++) {
            all.append(id == 0 ? ", labels " : " ").append(x.label(id));
        }
        for (int c = -1; c <= 4; c++) {
            all.append(", class ").append(c).append(": ").append(x.documents(c));
            all.append(" ").append(x.total(c)).append(" ").append(x.order(c));
            for (int k = 0; k < words; k++) {
                all.append(" ").append(x.count(c, k));
            }
            all.append(" ").append(x.compare(0, c)).append(x.compare(1, c));
        }
        return all.toString();
    }
}
