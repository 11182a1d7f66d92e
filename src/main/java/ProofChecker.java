import java.util.Arrays;

public final class ProofChecker {
    private static final int TERMS = 1000;
    private static final int IS = 0;
    private static final int SAME = 1;

    private static final int MOST_AXIOMS = 100;
    private static final int MOST_TRIPLES = 100;
    private static final int MOST_ROWS = 300;
    private static final int MOST_PREMISES = 3;
    private static final int MOST_NUMBERS = 3;
    private static final int MOST_SIZE = 1000000000;

    private static final int LAST_AXIOM_KIND = 10;
    private static final int TRIPLE_KIND = 11;

    private static final int NOT_THERE = -1;
    private static final int OUT_OF_RANGE = -2;
    private static final int MAY_NOT_BE = -3;
    private static final int NO_ROOM = -4;

    private static final String IS_WORDING = "A is class C";
    private static final String SAME_WORDING = "A is C";

    private static final Kind[] KINDS = Kind.values();
    private static final Rule[] RULES = Rule.values();

    private final Statements axioms;
    private final Statements triples;
    private final Rows laid;
    /** What each row states; kept at every change, because a row's premises always stand before it. */
    private final Statements stated;
    private final Letters letters;
    private final StringBuilder told;
    private final boolean[] needed;
    /** One number a row, for the call that is under way alone. */
    private final int[] reckoned;
    private int broken;

    public ProofChecker() {
        axioms = new Statements(MOST_AXIOMS);
        triples = new Statements(MOST_TRIPLES);
        laid = new Rows();
        stated = new Statements(MOST_ROWS);
        letters = new Letters();
        told = new StringBuilder();
        needed = new boolean[MOST_ROWS + 1];
        reckoned = new int[MOST_ROWS + 1];
        broken = 0;
    }

    public int axiom(int kind, int a, int b) {
        if (kind < 1 || kind > LAST_AXIOM_KIND || kind >= KINDS.length || !isTerm(a)) {
            return OUT_OF_RANGE;
        }
        boolean alone = KINDS[kind].numbers == 1;
        if (!alone && !isTerm(b)) {
            return OUT_OF_RANGE;
        }
        return axioms.add(kind, a, alone ? 0 : b, 0);
    }

    public int triple(int s, int p, int o) {
        if (!isTerm(s) || !isTerm(p) || !isTerm(o)) {
            return OUT_OF_RANGE;
        }
        int known = triples.find(TRIPLE_KIND, s, p, o);
        return known != 0 ? known : triples.add(TRIPLE_KIND, s, p, o);
    }

    public int row(int rule, int instance, int premise) {
        Rule named = ruleNumbered(rule);
        if (named == null || !isInstance(named, instance)) {
            return 0;
        }
        if (premise != 0 && (!laid.has(premise) || named.takes() == 0)) {
            return 0;
        }
        int row = laid.lay(rule, instance);
        if (row != 0) {
            if (premise != 0) {
                laid.addPremise(row, premise);
            }
            derive(row);
        }
        return row;
    }

    public int premise(int row, int other) {
        Rule rule = ruleOf(row);
        if (rule == null || !laid.has(other)) {
            return NOT_THERE;
        }
        if (other >= row || laid.premiseCount(row) >= rule.takes()) {
            return MAY_NOT_BE;
        }
        laid.addPremise(row, other);
        for (int later = row; later <= laid.last(); later++) {
            derive(later);
        }
        return laid.premiseCount(row);
    }

    public int check(int root) {
        if (!laid.has(root)) {
            return NOT_THERE;
        }
        markProof(root);
        broken = leastBroken(root);
        return stated.has(root) ? 1 : 0;
    }

    public int broken() {
        return broken;
    }

    public int rows(int root) {
        if (!laid.has(root)) {
            return NOT_THERE;
        }
        markProof(root);
        int count = 0;
        for (int row = 1; row <= root; row++) {
            if (needed[row]) {
                count++;
            }
        }
        return count;
    }

    public int size(int root) {
        if (!laid.has(root)) {
            return NOT_THERE;
        }
        for (int row = 1; row <= root; row++) {
            reckoned[row] = sizeAbovePremises(row);
        }
        return reckoned[root];
    }

    public int drop(int root) {
        if (!laid.has(root)) {
            return NOT_THERE;
        }
        markProof(root);
        int kept = 0;
        for (int row = 1; row <= root; row++) {
            if (needed[row]) {
                kept++;
                reckoned[row] = kept;
                laid.move(row, kept, reckoned);
                stated.put(kept, stated, row);
            }
        }
        laid.keepOnly(kept);
        broken = 0;
        return kept;
    }

    public int name(int row) {
        return laid.has(row) ? laid.ruleNumber(row) : NOT_THERE;
    }

    public int states(int row, int what) {
        if (!laid.has(row)) {
            return NOT_THERE;
        }
        if (what < 0 || what > MOST_NUMBERS) {
            return OUT_OF_RANGE;
        }
        return what == 0 ? stated.kind(row) : stated.number(row, what);
    }

    public int sentence(int row) {
        Rule rule = ruleOf(row);
        if (rule == null) {
            return NOT_THERE;
        }
        told.setLength(0);
        told.append(row).append(". ");
        tellStatement(row);
        told.append(", by ").append(rule.word);
        tellPremises(row);
        told.append('.');
        return told.length();
    }

    public int at(int i) {
        if (i < 0 || i >= told.length()) {
            return OUT_OF_RANGE;
        }
        return told.charAt(i);
    }

    public boolean concludes(int root, int triple) {
        return laid.has(root) && triples.has(triple) && stated.isSame(root, triples, triple);
    }

    private static boolean isTerm(int number) {
        return number >= 0 && number < TERMS;
    }

    private static Rule ruleNumbered(int number) {
        return number >= 0 && number < RULES.length ? RULES[number] : null;
    }

    private Rule ruleOf(int row) {
        return laid.has(row) ? ruleNumbered(laid.ruleNumber(row)) : null;
    }

    private boolean isInstance(Rule rule, int instance) {
        if (rule == Rule.AXIOM) {
            return axioms.has(instance);
        }
        if (rule == Rule.GIVEN || rule == Rule.ANYTHING) {
            return triples.has(instance);
        }
        return rule != Rule.ITSELF || isTerm(instance);
    }

    private void derive(int row) {
        stated.clear(row);
        Rule rule = ruleOf(row);
        if (rule != null && fits(row, rule)) {
            conclude(row, rule);
        }
    }

    private boolean fits(int row, Rule rule) {
        if (laid.premiseCount(row) != rule.takes()) {
            return false;
        }
        letters.forget();
        for (int i = 0; i < rule.takes(); i++) {
            if (!isAsTold(laid.premiseAt(row, i), rule.asks, i * Rule.WIDTH)) {
                return false;
            }
        }
        return true;
    }

    private boolean isAsTold(int premise, String pattern, int start) {
        // No pattern has the kind 0 of a row that is not RIGHT, so a premise that is not RIGHT fits none.
        if (stated.kind(premise) != Letters.kindFor(signAt(pattern, start))) {
            return false;
        }
        for (int which = 1; which <= MOST_NUMBERS; which++) {
            if (!letters.agree(signAt(pattern, start + which), stated.number(premise, which))) {
                return false;
            }
        }
        return true;
    }

    private void conclude(int row, Rule rule) {
        int instance = laid.instance(row);
        if (rule == Rule.AXIOM) {
            stated.put(row, axioms, instance);
        } else if (rule == Rule.GIVEN || rule == Rule.ANYTHING) {
            stated.put(row, triples, instance);
        } else {
            if (rule == Rule.ITSELF) {
                letters.agree('i', instance);
            }
            stated.put(row, Letters.kindFor(signAt(rule.gives, 0)), letters.meaning(signAt(rule.gives, 1)),
                    letters.meaning(signAt(rule.gives, 2)), letters.meaning(signAt(rule.gives, 3)));
        }
    }

    private static char signAt(String pattern, int i) {
        return i >= 0 && i < pattern.length() ? pattern.charAt(i) : Letters.NO_NUMBER;
    }

    private void markProof(int root) {
        for (int row = 0; row < needed.length; row++) {
            needed[row] = false;
        }
        if (!laid.has(root)) {
            return;
        }
        needed[root] = true;
        for (int row = root; row >= 1; row--) {
            for (int i = 0; needed[row] && i < laid.premiseCount(row); i++) {
                int premise = laid.premiseAt(row, i);
                if (laid.has(premise)) {
                    needed[premise] = true;
                }
            }
        }
    }

    /** A row's premises stand before it, so those of the least row that is not RIGHT all are. */
    private int leastBroken(int root) {
        for (int row = 1; row <= root && row < needed.length; row++) {
            if (needed[row] && !stated.has(row)) {
                return row;
            }
        }
        return 0;
    }

    private int sizeAbovePremises(int row) {
        long total = 1;
        for (int i = 0; i < laid.premiseCount(row); i++) {
            int premise = laid.premiseAt(row, i);
            if (laid.has(premise)) {
                total += reckoned[premise];
            }
        }
        return (int) Math.min(total, (long) MOST_SIZE);
    }

    private void tellStatement(int row) {
        String wording = wordingFor(row);
        for (int i = 0; i < wording.length(); i++) {
            char sign = wording.charAt(i);
            if (sign >= 'A' && sign <= 'C') {
                told.append(stated.number(row, sign - 'A' + 1));
            } else {
                told.append(sign);
            }
        }
    }

    private String wordingFor(int row) {
        int kind = stated.kind(row);
        if (kind == TRIPLE_KIND && stated.number(row, 2) == IS) {
            return IS_WORDING;
        }
        if (kind == TRIPLE_KIND && stated.number(row, 2) == SAME) {
            return SAME_WORDING;
        }
        return kind >= 0 && kind < KINDS.length ? KINDS[kind].wording : Kind.NOTHING.wording;
    }

    private void tellPremises(int row) {
        for (int i = 0; i < laid.premiseCount(row); i++) {
            told.append(i == 0 ? " from " : " and ").append(laid.premiseAt(row, i));
        }
    }

    /** In the order of their numbers; A, B and C in the wording stand for the statement's numbers. */
    private enum Kind {
        NOTHING(0, "nothing"),
        CLASS_BELOW(2, "class A is below class B"),
        PROPERTY_BELOW(2, "A is below B"),
        BEGINS(2, "what A begins at is class B"),
        LEADS(2, "what A leads to is class B"),
        APART(2, "class A and class B have nothing in common"),
        THROUGH(1, "A goes through"),
        EITHER(1, "A goes either way"),
        OTHER(2, "A is B the other way"),
        ONE(1, "A leads to one"),
        NOT(2, "A is not B"),
        TRIPLE(3, "A B C"),
        CONTRADICTION(0, "contradiction");

        private final int numbers;
        private final String wording;

        Kind(int numbers, String wording) {
            this.numbers = numbers;
            this.wording = wording;
        }
    }

    /**
     * In the order of their numbers. What a rule asks of its premises and what it gives are written
     * with four signs a statement: its kind (1 to 9, A is 10, B is 11, C is 12) and its three
     * numbers, where a letter stands for the same number all over the rule, a digit for that term,
     * and a dot for no number.
     */
    private enum Rule {
        AXIOM("axiom", "", ""),
        GIVEN("given", "", ""),
        ITSELF("itself", "", "1ii."),
        BELOW("below", "1ab.1bc.", "1ac."),
        PROPERTIES("properties", "2pq.2qr.", "2pr."),
        CLASS("class", "1ab.Bx0a", "Bx0b"),
        PROPERTY("property", "2pq.Bxpy", "Bxqy"),
        BEGINS("begins", "3pc.Bxpy", "Bx0c"),
        LEADS("leads", "4pc.Bxpy", "By0c"),
        EITHER("either", "7p..Bxpy", "Bypx"),
        THROUGH("through", "6p..BxpyBypz", "Bxpz"),
        OTHER("other", "8pq.Bxpy", "Byqx"),
        SWAP("swap", "Bx1y", "By1x"),
        EQUAL("equal", "Bx1yBxpz", "Bypz"),
        ONE("one", "9p..BxpyBxpz", "By1z"),
        APART("apart", "5ab.Bx0aBx0b", "C..."),
        NOT("not", "Axy.Bx1y", "C..."),
        ANYTHING("anything", "C...", "");

        private static final int WIDTH = 4;

        private final String word;
        private final String asks;
        private final String gives;

        Rule(String word, String asks, String gives) {
            this.word = word;
            this.asks = asks;
            this.gives = gives;
        }

        int takes() {
            return asks.length() / WIDTH;
        }
    }

    /** What the letters of one rule's patterns stand for while its premises are looked at. */
    private static final class Letters {
        private static final char NO_NUMBER = '.';
        private static final int FREE = -1;

        private final int[] meanings = new int['z' - 'a' + 1];

        static int kindFor(char sign) {
            if (sign >= '1' && sign <= '9') {
                return sign - '0';
            }
            return sign >= 'A' && sign <= 'C' ? sign - 'A' + 10 : 0;
        }

        void forget() {
            Arrays.fill(meanings, FREE);
        }

        boolean agree(char sign, int number) {
            if (sign == NO_NUMBER) {
                return true;
            }
            if (sign >= 'a' && sign <= 'z' && meanings[sign - 'a'] == FREE) {
                meanings[sign - 'a'] = number;
            }
            return meaning(sign) == number;
        }

        int meaning(char sign) {
            if (sign >= 'a' && sign <= 'z') {
                return meanings[sign - 'a'];
            }
            return sign >= '0' && sign <= '9' ? sign - '0' : 0;
        }
    }

    /** Statements by their numbers, from 1; one that is not there has the kind 0 and the numbers 0. */
    private static final class Statements {
        private final int[] kinds;
        private final int[] numbers;
        private int count;

        Statements(int most) {
            int places = Math.max(most, 0) + 1;
            kinds = new int[places];
            numbers = new int[places * MOST_NUMBERS];
            count = 0;
        }

        boolean has(int i) {
            return kind(i) != 0;
        }

        int kind(int i) {
            return i >= 1 && i < kinds.length ? kinds[i] : 0;
        }

        int number(int i, int which) {
            boolean there = i >= 1 && i < kinds.length && which >= 1 && which <= MOST_NUMBERS;
            return there ? numbers[i * MOST_NUMBERS + which - 1] : 0;
        }

        int add(int kind, int a, int b, int c) {
            if (count + 1 >= kinds.length) {
                return NO_ROOM;
            }
            count++;
            put(count, kind, a, b, c);
            return count;
        }

        int find(int kind, int a, int b, int c) {
            for (int i = 1; i <= count; i++) {
                if (is(i, kind, a, b, c)) {
                    return i;
                }
            }
            return 0;
        }

        boolean isSame(int i, Statements others, int other) {
            return is(i, others.kind(other), others.number(other, 1), others.number(other, 2),
                    others.number(other, 3));
        }

        private boolean is(int i, int kind, int a, int b, int c) {
            return kind(i) == kind && number(i, 1) == a && number(i, 2) == b && number(i, 3) == c;
        }

        void put(int i, Statements others, int other) {
            put(i, others.kind(other), others.number(other, 1), others.number(other, 2),
                    others.number(other, 3));
        }

        void put(int i, int kind, int a, int b, int c) {
            if (i >= 1 && i < kinds.length) {
                kinds[i] = kind;
                numbers[i * MOST_NUMBERS] = a;
                numbers[i * MOST_NUMBERS + 1] = b;
                numbers[i * MOST_NUMBERS + 2] = c;
            }
        }

        void clear(int i) {
            put(i, 0, 0, 0, 0);
        }
    }

    /** The rows as they were laid, by their numbers, from 1. */
    private static final class Rows {
        private final int[] ruleNumbers = new int[MOST_ROWS + 1];
        private final int[] instances = new int[MOST_ROWS + 1];
        private final int[] premiseCounts = new int[MOST_ROWS + 1];
        private final int[] premises = new int[(MOST_ROWS + 1) * MOST_PREMISES];
        private int last = 0;

        boolean has(int row) {
            return row >= 1 && row <= last && row <= MOST_ROWS;
        }

        int last() {
            return last;
        }

        int ruleNumber(int row) {
            return has(row) ? ruleNumbers[row] : NOT_THERE;
        }

        int instance(int row) {
            return has(row) ? instances[row] : 0;
        }

        int premiseCount(int row) {
            return has(row) ? premiseCounts[row] : 0;
        }

        int premiseAt(int row, int i) {
            boolean there = i >= 0 && i < MOST_PREMISES && i < premiseCount(row);
            return there ? premises[row * MOST_PREMISES + i] : 0;
        }

        int lay(int rule, int instance) {
            if (last >= MOST_ROWS) {
                return 0;
            }
            last++;
            ruleNumbers[last] = rule;
            instances[last] = instance;
            premiseCounts[last] = 0;
            return last;
        }

        void addPremise(int row, int other) {
            int count = premiseCount(row);
            if (has(row) && count < MOST_PREMISES) {
                premises[row * MOST_PREMISES + count] = other;
                premiseCounts[row] = count + 1;
            }
        }

        /** Writes a row over one that stands no later, its premises by their new numbers. */
        void move(int row, int to, int[] newNumbers) {
            if (!has(row) || !has(to)) {
                return;
            }
            int count = premiseCount(row);
            for (int i = 0; i < count; i++) {
                int old = premises[row * MOST_PREMISES + i];
                boolean known = old >= 0 && old < newNumbers.length;
                premises[to * MOST_PREMISES + i] = known ? newNumbers[old] : 0;
            }
            ruleNumbers[to] = ruleNumbers[row];
            instances[to] = instances[row];
            premiseCounts[to] = count;
        }

        void keepOnly(int count) {
            last = Math.max(0, Math.min(count, last));
        }
    }
}
