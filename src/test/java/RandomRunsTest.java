import java.util.ArrayList;
import java.util.Arrays;
import java.util.HashSet;
import java.util.List;
import java.util.Set;
import java.util.TreeSet;

/**
 * Many runs of 512 calls by chance (from fixed seeds), each answer against a model that is written
 * from the document another way: rows as objects, proofs by recursion, each rule by itself.
 */
public final class RandomRunsTest {
    private static final int RUNS = 3000;

    private static final int[] RIGHT = new int[18];

    private static long seed;

    public static void main(String[] args) {
        for (int run = 1; run <= RUNS; run++) {
            seed = run * 1000003L;
            oneRun(run);
        }
        // Runs in which a rule never gives anything would show nothing of it.
        for (int rule = 0; rule < RIGHT.length; rule++) {
            if (RIGHT[rule] < 50) {
                System.out.println("too few right rows: " + Arrays.toString(RIGHT));
                System.exit(1);
            }
        }
        System.out.println("all runs are as the model says; right rows by rules: " + Arrays.toString(RIGHT));
    }

    private static int upTo(int most) {
        seed = seed * 6364136223846793005L + 1442695040888963407L;
        return (int) ((seed >>> 33) % (most + 1));
    }

    private static void oneRun(int run) {
        CountedChecker x = new CountedChecker();
        Model model = new Model();
        int terms = 1 + upTo(4);
        int growth = 1 + upTo(2);
        StringBuilder calls = new StringBuilder();
        while (x.callsLeft() > 0) {
            int which = upTo(99);
            int a = 0;
            int b = 0;
            int c = 0;
            long got;
            long want;
            String name;
            boolean readAll = false;
            if (which < 14) {
                name = "axiom";
                a = upTo(40) == 0 ? upTo(14) - 2 : 1 + upTo(9);
                b = term(terms);
                c = term(terms);
                got = x.axiom(a, b, c);
                want = model.axiom(a, b, c);
            } else if (which < 26) {
                name = "triple";
                a = term(terms);
                b = term(Math.min(terms, 4));
                c = term(terms);
                got = x.triple(a, b, c);
                want = model.triple(a, b, c);
            } else if (which < 50) {
                name = "row";
                a = upTo(60) == 0 ? upTo(24) - 3 : upTo(2) > 0 ? upTo(1) : 2 + upTo(15);
                b = a == 0 ? model.near(model.axioms.size()) : a == 2 ? term(999) : model.near(model.triples.size());
                c = a < 3 ? (upTo(30) == 0 ? 1 : 0) : upTo(30) == 0 ? 0 : model.fitting(a, 0, new ArrayList<>());
                got = x.row(a, b, c);
                want = model.row(a, b, c);
            } else if (which < 50 + 12 * growth) {
                name = "premise";
                a = upTo(2) == 0 ? model.near(model.rows.size()) : model.latestOpen();
                b = model.fittingFor(a);
                got = x.premise(a, b);
                want = model.premise(a, b);
            } else {
                int query = upTo(40);
                a = upTo(2) == 0 ? model.near(model.rows.size()) : model.rows.size();
                if (query < 6) {
                    name = "check";
                    got = x.check(a);
                    want = model.check(a);
                } else if (query < 12) {
                    name = "broken";
                    got = x.broken();
                    want = model.broken;
                } else if (query < 15) {
                    name = "rows";
                    got = x.rows(a);
                    want = model.there(a) ? model.proof(a).size() : -1;
                } else if (query < 18) {
                    name = "size";
                    got = x.size(a);
                    want = model.there(a) ? model.sizeOf(a) : -1;
                } else if (query < 19) {
                    name = "drop";
                    a = upTo(3) > 0 ? model.bestRoot() : a;
                    got = x.drop(a);
                    want = model.drop(a);
                } else if (query < 21) {
                    name = "name";
                    got = x.name(a);
                    want = model.there(a) ? model.rows.get(a - 1).rule : -1;
                } else if (query < 27) {
                    name = "states";
                    b = upTo(5) - 1;
                    got = x.states(a, b);
                    want = model.states(a, b);
                } else if (query < 32) {
                    name = "sentence";
                    got = x.sentence(a);
                    want = model.sentence(a);
                    readAll = upTo(7) == 0;
                } else if (query < 37) {
                    name = "at";
                    a = upTo(60) - 2;
                    got = x.at(a);
                    want = a >= 0 && a < model.told.length() ? model.told.charAt(a) : -2;
                } else {
                    name = "concludes";
                    b = model.near(model.triples.size());
                    got = x.concludes(a, b) ? 1 : 0;
                    want = model.concludes(a, b) ? 1 : 0;
                }
            }
            calls.append(name).append(' ').append(a).append(' ').append(b).append(' ').append(c).append(" = ")
                    .append(want).append('\n');
            if (got != want) {
                System.out.println(calls);
                System.out.println("run " + run + ": the last call answered " + got + ", due is " + want);
                System.exit(1);
            }
            if (readAll) {
                readTold(run, x, model.told);
            }
        }
        for (int row = 1; row <= model.rows.size(); row++) {
            if (model.statement(row) != null) {
                RIGHT[model.rows.get(row - 1).rule]++;
            }
        }
    }

    /** The latest sentence, byte for byte, and a byte more, as far as the run has calls for it. */
    private static void readTold(int run, CountedChecker x, String told) {
        for (int i = 0; i <= told.length() && x.callsLeft() > 0; i++) {
            int want = i < told.length() ? told.charAt(i) : -2;
            if (x.at(i) != want) {
                System.out.println("run " + run + ": not told: " + told);
                System.exit(1);
            }
        }
    }

    private static int term(int terms) {
        return upTo(80) == 0 ? new int[] {-1, 1000, 999, Integer.MIN_VALUE}[upTo(3)] : upTo(terms);
    }

    private static final class Row {
        int rule;
        int instance;
        List<Row> premises = new ArrayList<>();
    }

    private static final class Model {
        static final String[] WORDS = ("axiom given itself below properties class property begins leads either "
                + "through other swap equal one apart not anything").split(" ");
        static final int[][] ASKED = {{}, {}, {}, {1, 1}, {2, 2}, {1, 11}, {2, 11}, {3, 11}, {4, 11}, {7, 11},
            {6, 11, 11}, {8, 11}, {11}, {11, 11}, {9, 11, 11}, {5, 11, 11}, {10, 11}, {12}};

        final List<int[]> axioms = new ArrayList<>();
        final List<int[]> triples = new ArrayList<>();
        List<Row> rows = new ArrayList<>();
        String told = "";
        int broken = 0;

        boolean isTerm(int t) {
            return 0 <= t && t <= 999;
        }

        boolean there(int row) {
            return row >= 1 && row <= rows.size();
        }

        int near(int count) {
            return upTo(25) == 0 ? upTo(count + 3) - 1 : count == 0 ? 0 : 1 + upTo(count - 1);
        }

        /** A row that a rule may well take as its next premise, so that some proofs come out right. */
        int fitting(int rule, int place, List<Row> before) {
            if (rule < 3 || rule > 17 || place >= ASKED[rule].length || upTo(15) == 0) {
                return near(rows.size());
            }
            List<Integer> best = new ArrayList<>();
            List<Integer> kinds = new ArrayList<>();
            for (int i = 1; i <= rows.size(); i++) {
                int[] s = statement(i);
                if (s != null && s[0] == ASKED[rule][place]) {
                    kinds.add(i);
                    Row trial = new Row();
                    trial.rule = rule;
                    trial.premises.addAll(before);
                    trial.premises.add(rows.get(i - 1));
                    if (trial.premises.size() == ASKED[rule].length && (rule == 17 || gives(trial) != null)) {
                        best.add(i);
                    }
                }
            }
            List<Integer> from = best.isEmpty() ? kinds : best;
            return from.isEmpty() ? near(rows.size()) : from.get(upTo(from.size() - 1));
        }

        int fittingFor(int row) {
            if (!there(row)) {
                return near(rows.size());
            }
            Row r = rows.get(row - 1);
            return fitting(r.rule, r.premises.size(), r.premises);
        }

        int latestOpen() {
            for (int i = rows.size(); i >= 1; i--) {
                if (rows.get(i - 1).premises.size() < ASKED[rows.get(i - 1).rule].length) {
                    return i;
                }
            }
            return rows.size();
        }

        int bestRoot() {
            for (int i = rows.size(); i >= 1; i--) {
                if (rows.get(i - 1).premises.size() > 1 && statement(i) != null) {
                    return i;
                }
            }
            return rows.size();
        }

        int axiom(int kind, int a, int b) {
            if (kind < 1 || kind > 10 || !isTerm(a)) {
                return -2;
            }
            boolean alone = kind == 6 || kind == 7 || kind == 9;
            if (!alone && !isTerm(b)) {
                return -2;
            }
            if (axioms.size() == 100) {
                return -4;
            }
            axioms.add(new int[] {kind, a, alone ? 0 : b, 0});
            return axioms.size();
        }

        int triple(int s, int p, int o) {
            if (!isTerm(s) || !isTerm(p) || !isTerm(o)) {
                return -2;
            }
            int[] t = {11, s, p, o};
            for (int i = 0; i < triples.size(); i++) {
                if (Arrays.equals(triples.get(i), t)) {
                    return i + 1;
                }
            }
            if (triples.size() == 100) {
                return -4;
            }
            triples.add(t);
            return triples.size();
        }

        int row(int rule, int instance, int premise) {
            if (rule < 0 || rule > 17 || rows.size() == 300) {
                return 0;
            }
            if (rule == 0 && (instance < 1 || instance > axioms.size())) {
                return 0;
            }
            if ((rule == 1 || rule == 17) && (instance < 1 || instance > triples.size())) {
                return 0;
            }
            if (rule == 2 && !isTerm(instance)) {
                return 0;
            }
            if (premise != 0 && (!there(premise) || rule <= 2)) {
                return 0;
            }
            Row r = new Row();
            r.rule = rule;
            r.instance = instance;
            if (premise != 0) {
                r.premises.add(rows.get(premise - 1));
            }
            rows.add(r);
            return rows.size();
        }

        int premise(int row, int other) {
            if (!there(row) || !there(other)) {
                return -1;
            }
            Row r = rows.get(row - 1);
            if (other >= row || r.premises.size() >= ASKED[r.rule].length) {
                return -3;
            }
            r.premises.add(rows.get(other - 1));
            return r.premises.size();
        }

        int[] statement(int row) {
            return gives(rows.get(row - 1));
        }

        int[] gives(Row r) {
            if (r.premises.size() != ASKED[r.rule].length) {
                return null;
            }
            int[][] p = new int[3][4];
            for (int i = 0; i < r.premises.size(); i++) {
                p[i] = gives(r.premises.get(i));
                if (p[i] == null || p[i][0] != ASKED[r.rule][i]) {
                    return null;
                }
            }
            return gives(r, p[0], p[1], p[2]);
        }

        int[] gives(Row r, int[] f, int[] g, int[] h) {
            switch (r.rule) {
                case 0: return axioms.get(r.instance - 1);
                case 1: return triples.get(r.instance - 1);
                case 2: return new int[] {1, r.instance, r.instance, 0};
                case 3: return f[2] == g[1] ? new int[] {1, f[1], g[2], 0} : null;
                case 4: return f[2] == g[1] ? new int[] {2, f[1], g[2], 0} : null;
                case 5: return g[2] == 0 && g[3] == f[1] ? new int[] {11, g[1], 0, f[2]} : null;
                case 6: return g[2] == f[1] ? new int[] {11, g[1], f[2], g[3]} : null;
                case 7: return g[2] == f[1] ? new int[] {11, g[1], 0, f[2]} : null;
                case 8: return g[2] == f[1] ? new int[] {11, g[3], 0, f[2]} : null;
                case 9: return g[2] == f[1] ? new int[] {11, g[3], f[1], g[1]} : null;
                case 10: return g[2] == f[1] && h[2] == f[1] && g[3] == h[1] ? new int[] {11, g[1], f[1], h[3]} : null;
                case 11: return g[2] == f[1] ? new int[] {11, g[3], f[2], g[1]} : null;
                case 12: return f[2] == 1 ? new int[] {11, f[3], 1, f[1]} : null;
                case 13: return f[2] == 1 && g[1] == f[1] ? new int[] {11, f[3], g[2], g[3]} : null;
                case 14: return g[2] == f[1] && h[2] == f[1] && g[1] == h[1] ? new int[] {11, g[3], 1, h[3]} : null;
                case 15: return g[2] == 0 && h[2] == 0 && g[1] == h[1] && g[3] == f[1] && h[3] == f[2]
                        ? new int[] {12, 0, 0, 0} : null;
                case 16: return g[2] == 1 && g[1] == f[1] && g[3] == f[2] ? new int[] {12, 0, 0, 0} : null;
                default: return triples.get(r.instance - 1);
            }
        }

        Set<Row> proof(int root) {
            Set<Row> all = new HashSet<>();
            gather(rows.get(root - 1), all);
            return all;
        }

        void gather(Row r, Set<Row> all) {
            if (all.add(r)) {
                for (Row premise : r.premises) {
                    gather(premise, all);
                }
            }
        }

        int check(int root) {
            if (!there(root)) {
                return -1;
            }
            broken = 0;
            TreeSet<Integer> numbers = new TreeSet<>();
            for (Row r : proof(root)) {
                boolean below = true;
                for (Row premise : r.premises) {
                    below &= gives(premise) != null;
                }
                if (below && gives(r) == null) {
                    numbers.add(rows.indexOf(r) + 1);
                }
            }
            broken = numbers.isEmpty() ? 0 : numbers.first();
            return statement(root) != null ? 1 : 0;
        }

        long sizeOf(int row) {
            long size = 1;
            for (Row premise : rows.get(row - 1).premises) {
                size = Math.min(1000000000L, size + sizeOf(rows.indexOf(premise) + 1));
            }
            return size;
        }

        int drop(int root) {
            if (!there(root)) {
                return -1;
            }
            Set<Row> all = proof(root);
            rows.removeIf(r -> !all.contains(r));
            broken = 0;
            return rows.size();
        }

        int states(int row, int what) {
            if (!there(row)) {
                return -1;
            }
            if (what < 0 || what > 3) {
                return -2;
            }
            int[] s = statement(row);
            return s == null ? 0 : s[what];
        }

        boolean concludes(int root, int triple) {
            return there(root) && triple >= 1 && triple <= triples.size()
                    && Arrays.equals(statement(root), triples.get(triple - 1));
        }

        int sentence(int row) {
            if (!there(row)) {
                return -1;
            }
            Row r = rows.get(row - 1);
            String from = "";
            for (Row premise : r.premises) {
                from += (from.isEmpty() ? " from " : " and ") + (rows.indexOf(premise) + 1);
            }
            told = row + ". " + worded(statement(row)) + ", by " + WORDS[r.rule] + from + ".";
            return told.length();
        }

        String worded(int[] s) {
            if (s == null) {
                return "nothing";
            }
            switch (s[0]) {
                case 1: return "class " + s[1] + " is below class " + s[2];
                case 2: return s[1] + " is below " + s[2];
                case 3: return "what " + s[1] + " begins at is class " + s[2];
                case 4: return "what " + s[1] + " leads to is class " + s[2];
                case 5: return "class " + s[1] + " and class " + s[2] + " have nothing in common";
                case 6: return s[1] + " goes through";
                case 7: return s[1] + " goes either way";
                case 8: return s[1] + " is " + s[2] + " the other way";
                case 9: return s[1] + " leads to one";
                case 10: return s[1] + " is not " + s[2];
                case 11: return s[1] + (s[2] == 0 ? " is class " : s[2] == 1 ? " is " : " " + s[2] + " ") + s[3];
                default: return "contradiction";
            }
        }
    }
}
