/** A ProofChecker that lets no test go beyond the calls of which the document says what they answer. */
final class CountedChecker {
    static final int MOST_CALLS = 512;

    private final ProofChecker checker = new ProofChecker();
    private int calls = 0;

    int callsLeft() {
        return MOST_CALLS - calls;
    }

    private ProofChecker counted() {
        if (calls >= MOST_CALLS) {
            throw new IllegalStateException("a test makes more than 512 calls: what they answer is free");
        }
        calls++;
        return checker;
    }

    int axiom(int kind, int a, int b) {
        return counted().axiom(kind, a, b);
    }

    int triple(int s, int p, int o) {
        return counted().triple(s, p, o);
    }

    int row(int rule, int instance, int premise) {
        return counted().row(rule, instance, premise);
    }

    int premise(int row, int other) {
        return counted().premise(row, other);
    }

    int check(int root) {
        return counted().check(root);
    }

    int broken() {
        return counted().broken();
    }

    int rows(int root) {
        return counted().rows(root);
    }

    int size(int root) {
        return counted().size(root);
    }

    int drop(int root) {
        return counted().drop(root);
    }

    int name(int row) {
        return counted().name(row);
    }

    int states(int row, int what) {
        return counted().states(row, what);
    }

    int sentence(int row) {
        return counted().sentence(row);
    }

    int at(int i) {
        return counted().at(i);
    }

    boolean concludes(int root, int triple) {
        return counted().concludes(root, triple);
    }
}
