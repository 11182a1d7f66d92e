/**
 * Each rule with each number and each kind of its premises changed alone: what its premises have to
 * be is written here once more from the document, a letter for a number that may be any term.
 */
public final class RulesTest {
    private static final int IS = 0;
    private static final int SAME = 1;

    private static final String[][] PREMISES = {
        {}, {}, {},
        {"1 a b", "1 b c"},
        {"2 p q", "2 q r"},
        {"1 a b", "11 x IS a"},
        {"2 p q", "11 x p y"},
        {"3 p c", "11 x p y"},
        {"4 p c", "11 x p y"},
        {"7 p", "11 x p y"},
        {"6 p", "11 x p y", "11 y p z"},
        {"8 p q", "11 x p y"},
        {"11 x SAME y"},
        {"11 x SAME y", "11 x p z"},
        {"9 p", "11 x p y", "11 x p z"},
        {"5 a b", "11 x IS a", "11 x IS b"},
        {"10 x y", "11 x SAME y"},
        {"12"}};

    private static final String[] GIVES = {
        "", "", "", "1 a c", "2 p r", "11 x IS b", "11 x q y", "11 x IS c", "11 y IS c", "11 y p x", "11 x p z",
        "11 y q x", "11 y SAME x", "11 y p z", "11 y SAME z", "12", "12", ""};

    /** What the letters stand for, by turns; the edges of the terms among them, and terms that are equal. */
    private static final String LETTERS = "abcpqrxyz";
    private static final int[][] MEANINGS = {
        {5, 6, 7, 20, 21, 22, 100, 101, 102},
        {0, 999, 0, 0, 999, 0, 0, 999, 0},
        {999, 0, 999, 999, 0, 999, 999, 0, 999},
        {1, 0, 1, 1, 0, 1, 1, 0, 1},
        {0, 1, 2, 0, 1, 2, 0, 1, 2},
        {0, 0, 0, 0, 0, 0, 0, 0, 0},
        {1, 1, 1, 1, 1, 1, 1, 1, 1},
        {998, 999, 998, 999, 998, 999, 998, 999, 998}};
    private static final int[] OTHERS = {0, 1, 2, 500, 998, 999};

    private static int wrong = 0;
    private static int held = 0;

    public static void main(String[] args) {
        for (int rule = 3; rule <= 17; rule++) {
            for (int[] meanings : MEANINGS) {
                asTold(rule, meanings);
                oneNumberChanged(rule, meanings);
                oneKindChanged(rule, meanings);
                onePremiseLess(rule, meanings);
            }
        }
        System.out.println(wrong == 0 ? "all rules hold, " + held + " times" : wrong + " answers are wrong");
        if (wrong != 0) {
            System.exit(1);
        }
    }

    private static void due(String what, long got, long want) {
        held++;
        if (got != want) {
            wrong++;
            System.out.println(what + " answered " + got + ", due is " + want);
        }
    }

    private static void asTold(int rule, int[] meanings) {
        CountedChecker x = new CountedChecker();
        int row = lay(x, rule, premises(rule, meanings));
        int[] want = rule == 17 ? new int[] {11, 50, 51, 52} : statement(GIVES[rule], meanings);
        due("rule " + rule + ": check", x.check(row), 1);
        due("rule " + rule + ": broken", x.broken(), 0);
        for (int what = 0; what <= 3; what++) {
            due("rule " + rule + ": states " + what, x.states(row, what), want[what]);
        }
    }

    private static void oneNumberChanged(int rule, int[] meanings) {
        for (int place = 0; place < PREMISES[rule].length; place++) {
            String[] signs = PREMISES[rule][place].split(" ");
            for (int number = 1; number < signs.length; number++) {
                for (int other : OTHERS) {
                    int[][] changed = premises(rule, meanings);
                    boolean same = changed[place][number] == other;
                    changed[place][number] = other;
                    CountedChecker x = new CountedChecker();
                    int row = lay(x, rule, changed);
                    boolean right = same || timesIn(rule, signs[number]) == 1;
                    due("rule " + rule + ": number " + number + " of premise " + place + " is " + other,
                            x.check(row), right ? 1 : 0);
                    due("rule " + rule + ": broken", x.broken(), right ? 0 : row);
                }
            }
        }
    }

    private static void oneKindChanged(int rule, int[] meanings) {
        for (int place = 0; place < PREMISES[rule].length; place++) {
            for (int kind = 1; kind <= 12; kind++) {
                int[][] changed = premises(rule, meanings);
                if (kind != changed[place][0]) {
                    changed[place][0] = kind;
                    CountedChecker x = new CountedChecker();
                    due("rule " + rule + ": kind of premise " + place + " is " + kind,
                            x.check(lay(x, rule, changed)), 0);
                }
            }
        }
    }

    private static void onePremiseLess(int rule, int[] meanings) {
        for (int less = 0; less < PREMISES[rule].length; less++) {
            int[][] all = premises(rule, meanings);
            int[][] left = new int[all.length - 1][];
            for (int i = 0; i < left.length; i++) {
                left[i] = all[i < less ? i : i + 1];
            }
            CountedChecker x = new CountedChecker();
            due("rule " + rule + " without premise " + less, x.check(lay(x, rule, left)), 0);
        }
    }

    private static int lay(CountedChecker x, int rule, int[][] premises) {
        int[] rows = new int[premises.length];
        for (int i = 0; i < rows.length; i++) {
            rows[i] = rowThatStates(x, premises[i]);
        }
        int instance = rule == 17 ? x.triple(50, 51, 52) : 0;
        int row = x.row(rule, instance, rows.length > 0 ? rows[0] : 0);
        for (int i = 1; i < rows.length; i++) {
            due("premise", x.premise(row, rows[i]), i + 1);
        }
        return row;
    }

    private static int rowThatStates(CountedChecker x, int[] statement) {
        if (statement[0] == 11) {
            return x.row(1, x.triple(statement[1], statement[2], statement[3]), 0);
        }
        if (statement[0] == 12) {
            int same = x.row(1, x.triple(60, SAME, 61), 0);
            int not = x.row(16, 0, x.row(0, x.axiom(10, 60, 61), 0));
            due("the other premise of a contradiction", x.premise(not, same), 2);
            return not;
        }
        return x.row(0, x.axiom(statement[0], statement[1], statement[2]), 0);
    }

    private static int[][] premises(int rule, int[] meanings) {
        int[][] all = new int[PREMISES[rule].length][];
        for (int i = 0; i < all.length; i++) {
            all[i] = statement(PREMISES[rule][i], meanings);
        }
        return all;
    }

    private static int[] statement(String text, int[] meanings) {
        String[] signs = text.split(" ");
        int[] numbers = new int[4];
        numbers[0] = Integer.parseInt(signs[0]);
        for (int i = 1; i < signs.length; i++) {
            numbers[i] = signs[i].equals("IS") ? IS : signs[i].equals("SAME") ? SAME
                    : meanings[LETTERS.indexOf(signs[i])];
        }
        return numbers;
    }

    /** A number that stands only once may be any; IS and SAME may be no other, however often they stand. */
    private static int timesIn(int rule, String sign) {
        int times = sign.length() > 1 ? 2 : 0;
        for (String premise : PREMISES[rule]) {
            for (String each : premise.split(" ")) {
                times += each.equals(sign) ? 1 : 0;
            }
        }
        return times;
    }
}
