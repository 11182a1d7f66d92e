/** What each promise of the document says, by hand: ordinary inputs, edges and wrong inputs. */
public final class PromisesTest {
    private static int wrong = 0;

    public static void main(String[] args) {
        promise1NewObject();
        promise2Axiom();
        promise3Triple();
        promise4Row();
        promise4RowHasRoomFor300();
        promise5Premise();
        promise5PremisesOfAnEarlierRow();
        promise5EachRuleTakesItsPremises();
        promise6CheckOfEachRule();
        promise6CheckOfRulesThatDoNotFit();
        promise6CheckOfPremises();
        promise7Broken();
        promise7BrokenIsWhatTheLatestCheckSaw();
        promise8Rows();
        promise9Size();
        promise10Drop();
        promise10DropMakesRoom();
        promise10DropKeepsWhatRowsAre();
        promise11Name();
        promise12States();
        promise13Statements();
        promise13Rules();
        promise14At();
        promise15Concludes();
        System.out.println(wrong == 0 ? "all promises hold" : wrong + " answers are wrong");
        if (wrong != 0) {
            System.exit(1);
        }
    }

    private static void due(String what, long got, long want) {
        if (got != want) {
            wrong++;
            System.out.println(what + " answered " + got + ", due is " + want);
        }
    }

    private static void due(String what, boolean got, boolean want) {
        due(what, got ? 1 : 0, want ? 1 : 0);
    }

    private static void due(String what, String got, String want) {
        if (!got.equals(want)) {
            wrong++;
            System.out.println(what + " answered \"" + got + "\", due is \"" + want + "\"");
        }
    }

    private static int row(CountedChecker x, int rule, int instance, int... premises) {
        int row = x.row(rule, instance, premises.length > 0 ? premises[0] : 0);
        for (int i = 1; i < premises.length; i++) {
            due("premise " + (i + 1) + " of row " + row, x.premise(row, premises[i]), i + 1);
        }
        return row;
    }

    private static int axiom(CountedChecker x, int kind, int a, int b) {
        return row(x, 0, x.axiom(kind, a, b));
    }

    private static int given(CountedChecker x, int s, int p, int o) {
        return row(x, 1, x.triple(s, p, o));
    }

    private static String told(CountedChecker x, int row) {
        int length = x.sentence(row);
        StringBuilder text = new StringBuilder();
        for (int i = 0; i < length; i++) {
            text.append((char) x.at(i));
        }
        due("the byte behind the sentence", x.at(length), -2);
        return text.toString();
    }

    private static void dueStatement(String what, CountedChecker x, int row, int kind, int a, int b, int c) {
        due(what + ": kind", x.states(row, 0), kind);
        due(what + ": first", x.states(row, 1), a);
        due(what + ": second", x.states(row, 2), b);
        due(what + ": third", x.states(row, 3), c);
        due(what + ": right", x.check(row), kind == 0 ? 0 : 1);
    }

    private static void promise1NewObject() {
        CountedChecker x = new CountedChecker();
        due("new: check", x.check(1), -1);
        due("new: broken", x.broken(), 0);
        due("new: rows", x.rows(1), -1);
        due("new: size", x.size(1), -1);
        due("new: drop", x.drop(1), -1);
        due("new: name", x.name(1), -1);
        due("new: states", x.states(1, 0), -1);
        due("new: sentence", x.sentence(1), -1);
        due("new: at", x.at(0), -2);
        due("new: concludes", x.concludes(1, 1), false);
        due("new: premise", x.premise(1, 1), -1);
        due("new: axiom row", x.row(0, 1, 0), 0);
        due("new: given row", x.row(1, 1, 0), 0);
        due("new: anything row", x.row(17, 1, 0), 0);
        CountedChecker y = new CountedChecker();
        x.axiom(1, 2, 3);
        due("objects share nothing", y.row(0, 1, 0), 0);
        due("first axiom of another object", y.axiom(1, 2, 3), 1);
    }

    private static void promise2Axiom() {
        CountedChecker x = new CountedChecker();
        due("axiom kind 0", x.axiom(0, 1, 1), -2);
        due("axiom kind 11", x.axiom(11, 1, 1), -2);
        due("axiom kind 12", x.axiom(12, 1, 1), -2);
        due("axiom kind -1", x.axiom(-1, 1, 1), -2);
        due("axiom kind least", x.axiom(Integer.MIN_VALUE, 1, 1), -2);
        due("axiom kind most", x.axiom(Integer.MAX_VALUE, 1, 1), -2);
        int count = 0;
        for (int kind = 1; kind <= 10; kind++) {
            boolean alone = kind == 6 || kind == 7 || kind == 9;
            due("axiom a -1", x.axiom(kind, -1, 5), -2);
            due("axiom a 1000", x.axiom(kind, 1000, 5), -2);
            due("axiom b -1, kind " + kind, x.axiom(kind, 5, -1), alone ? ++count : -2);
            due("axiom b 1000, kind " + kind, x.axiom(kind, 5, 1000), alone ? ++count : -2);
            due("axiom of terms 0, 999", x.axiom(kind, 0, 999), ++count);
            due("axiom of terms 999, 0", x.axiom(kind, 999, 0), ++count);
            int row = x.row(0, count - 1, 0);
            dueStatement("axiom " + kind, x, row, kind, 0, alone ? 0 : 999, 0);
        }
        due("the same axiom again", x.axiom(9, 999, 0), ++count);
        while (count < 100) {
            due("axiom up to 100", x.axiom(1, 2, 3), ++count);
        }
        due("axiom 101", x.axiom(1, 2, 3), -4);
        due("axiom 101 of one number", x.axiom(6, 2, 3), -4);
        due("axiom 101 out of range", x.axiom(1, 2, 1000), -2);
        due("the hundredth axiom", x.row(0, 100, 0) > 0, true);
        due("no axiom 101", x.row(0, 101, 0), 0);
    }

    private static void promise3Triple() {
        CountedChecker x = new CountedChecker();
        int[] off = {-1, 1000, Integer.MIN_VALUE, Integer.MAX_VALUE};
        for (int no : off) {
            due("triple s", x.triple(no, 1, 1), -2);
            due("triple p", x.triple(1, no, 1), -2);
            due("triple o", x.triple(1, 1, no), -2);
        }
        due("triple of edges", x.triple(0, 999, 0), 1);
        due("triple of edges", x.triple(999, 0, 999), 2);
        due("triple s differs", x.triple(1, 999, 0), 3);
        due("triple p differs", x.triple(0, 998, 0), 4);
        due("triple o differs", x.triple(0, 999, 1), 5);
        due("the same again", x.triple(0, 999, 0), 1);
        due("the same again", x.triple(0, 999, 1), 5);
        for (int i = 6; i <= 100; i++) {
            due("triple up to 100", x.triple(i, i, i), i);
        }
        due("triple 101", x.triple(5, 5, 5), -4);
        due("triple that is there, without room", x.triple(50, 50, 50), 50);
        due("the last one again", x.triple(100, 100, 100), 100);
        due("triple 101 out of range", x.triple(5, 5, 1000), -2);
        due("row of triple 100", x.row(1, 100, 0), 1);
        dueStatement("triple 100", x, 1, 11, 100, 100, 100);
        due("row of triple 101", x.row(1, 101, 0), 0);
        due("the axioms have numbers of their own", x.axiom(1, 1, 1), 1);
    }

    private static void promise4Row() {
        CountedChecker x = new CountedChecker();
        due("rule -1", x.row(-1, 1, 0), 0);
        due("rule 18", x.row(18, 1, 0), 0);
        due("no axiom yet", x.row(0, 1, 0), 0);
        due("no triple yet", x.row(1, 1, 0), 0);
        x.axiom(1, 5, 6);
        x.triple(7, 0, 5);
        x.triple(7, 0, 6);
        due("axiom 0", x.row(0, 0, 0), 0);
        due("axiom -1", x.row(0, -1, 0), 0);
        due("axiom 2", x.row(0, 2, 0), 0);
        due("triple 0", x.row(1, 0, 0), 0);
        due("triple 3", x.row(1, 3, 0), 0);
        due("term -1", x.row(2, -1, 0), 0);
        due("term 1000", x.row(2, 1000, 0), 0);
        due("anything of triple 0", x.row(17, 0, 0), 0);
        due("anything of triple 3", x.row(17, 3, 0), 0);
        due("premise that is not there", x.row(3, 0, 1), 0);
        due("premise -1", x.row(3, 0, -1), 0);
        due("axiom row", x.row(0, 1, 0), 1);
        due("given row", x.row(1, 2, 0), 2);
        due("itself row of 0", x.row(2, 0, 0), 3);
        due("itself row of 999", x.row(2, 999, 0), 4);
        for (int rule = 0; rule <= 2; rule++) {
            due("a premise but rule " + rule + " takes none", x.row(rule, 1, 1), 0);
        }
        due("the row itself is no premise of it", x.row(3, 0, 5), 0);
        due("a row without premises", x.row(3, 0, 0), 5);
        due("instance not looked at", x.row(3, -77, 1), 6);
        due("instance not looked at", x.row(16, Integer.MAX_VALUE, 6), 7);
        due("anything row", x.row(17, 2, 7), 8);
        due("anything row without a premise", x.row(17, 1, 0), 9);
    }

    private static void promise4RowHasRoomFor300() {
        CountedChecker x = new CountedChecker();
        for (int i = 1; i <= 300; i++) {
            due("row up to 300", x.row(2, i, 0), i);
        }
        due("row 301", x.row(2, 1, 0), 0);
        due("row 301 with a premise", x.row(3, 0, 300), 0);
        due("rows of 300", x.rows(300), 1);
        due("no row 301", x.name(301), -1);
        dueStatement("row 300", x, 300, 1, 300, 300, 0);
    }

    private static void promise5Premise() {
        CountedChecker x = new CountedChecker();
        int a = axiom(x, 6, 5, 0);
        int t = given(x, 7, 5, 8);
        int u = given(x, 8, 5, 9);
        int r = x.row(10, 0, 0);
        due("premise of no row", x.premise(0, a), -1);
        due("premise of no row", x.premise(r + 1, a), -1);
        due("premise that is no row", x.premise(r, 0), -1);
        due("premise that is no row", x.premise(r, r + 1), -1);
        due("premise that is no row", x.premise(r, -1), -1);
        due("not before it and full, but no row first", x.premise(a, 99), -1);
        due("itself as premise", x.premise(r, r), -3);
        due("a later one", x.premise(t, u), -3);
        due("rule takes none", x.premise(t, a), -3);
        due("first", x.premise(r, a), 1);
        due("second", x.premise(r, t), 2);
        due("not right yet", x.check(r), 0);
        due("third", x.premise(r, u), 3);
        due("fourth", x.premise(r, a), -3);
        due("a refused one changes nothing", told(x, r), "4. 7 5 9, by through from 1 and 2 and 3.");
    }

    private static void promise5PremisesOfAnEarlierRow() {
        CountedChecker x = new CountedChecker();
        int a = axiom(x, 1, 5, 6);
        int b = axiom(x, 1, 6, 7);
        int c = row(x, 3, 0, a);
        int t = given(x, 9, 0, 5);
        int d = row(x, 5, 0, c, t);
        due("rests on a row that is not right", x.check(d), 0);
        due("an earlier row has one more", x.premise(c, b), 2);
        due("what rests on it is right now", x.check(d), 1);
        dueStatement("what rests on it", x, d, 11, 9, 0, 7);
        due("an earlier row takes no more", x.premise(c, b), -3);

        CountedChecker y = new CountedChecker();
        int e = given(y, 4, 1, 5);
        int f = row(y, 12, 0, e);
        int g = row(y, 12, 0, f);
        due("swap takes one", y.premise(f, e), -3);
        due("still right", y.check(g), 1);
    }

    private static void promise5EachRuleTakesItsPremises() {
        int[] takes = {0, 0, 0, 2, 2, 2, 2, 2, 2, 2, 3, 2, 1, 2, 3, 3, 2, 1};
        for (int rule = 0; rule < takes.length; rule++) {
            CountedChecker x = new CountedChecker();
            axiom(x, 1, 5, 6);
            x.triple(1, 2, 3);
            int r = x.row(rule, 1, 0);
            for (int i = 1; i <= takes[rule]; i++) {
                due("rule " + rule + " takes " + i, x.premise(r, 1), i);
            }
            due("rule " + rule + " takes no more", x.premise(r, 1), -3);
        }
    }

    private static void promise6CheckOfEachRule() {
        CountedChecker x = new CountedChecker();
        dueStatement("itself", x, x.row(2, 40, 0), 1, 40, 40, 0);
        int below = row(x, 3, 0, axiom(x, 1, 5, 6), axiom(x, 1, 6, 7));
        dueStatement("below", x, below, 1, 5, 7, 0);
        int properties = row(x, 4, 0, axiom(x, 2, 20, 21), axiom(x, 2, 21, 22));
        dueStatement("properties", x, properties, 2, 20, 22, 0);
        dueStatement("class", x, row(x, 5, 0, below, given(x, 100, 0, 5)), 11, 100, 0, 7);
        int t = given(x, 100, 20, 101);
        dueStatement("property", x, row(x, 6, 0, properties, t), 11, 100, 22, 101);
        dueStatement("begins", x, row(x, 7, 0, axiom(x, 3, 20, 8), t), 11, 100, 0, 8);
        dueStatement("leads", x, row(x, 8, 0, axiom(x, 4, 20, 9), t), 11, 101, 0, 9);
        dueStatement("either", x, row(x, 9, 0, axiom(x, 7, 20, 0), t), 11, 101, 20, 100);
        int u = given(x, 101, 20, 102);
        dueStatement("through", x, row(x, 10, 0, axiom(x, 6, 20, 0), t, u), 11, 100, 20, 102);
        dueStatement("other", x, row(x, 11, 0, axiom(x, 8, 20, 23), t), 11, 101, 23, 100);
        int same = given(x, 100, 1, 103);
        dueStatement("swap", x, row(x, 12, 0, same), 11, 103, 1, 100);
        dueStatement("equal", x, row(x, 13, 0, same, t), 11, 103, 20, 101);
        int v = given(x, 100, 20, 104);
        dueStatement("one", x, row(x, 14, 0, axiom(x, 9, 20, 0), t, v), 11, 101, 1, 104);
        int apart = row(x, 15, 0, axiom(x, 5, 5, 6), given(x, 30, 0, 5), given(x, 30, 0, 6));
        dueStatement("apart", x, apart, 12, 0, 0, 0);
        int not = row(x, 16, 0, axiom(x, 10, 100, 103), same);
        dueStatement("not", x, not, 12, 0, 0, 0);
        dueStatement("anything", x, row(x, 17, x.triple(1, 2, 3), not), 11, 1, 2, 3);
        due("check of row 0", x.check(0), -1);
        due("check of row -1", x.check(-1), -1);
        due("check of no row", x.check(1000), -1);
    }

    /** Each near miss differs from what the rule asks in one place. */
    private static void promise6CheckOfRulesThatDoNotFit() {
        CountedChecker x = new CountedChecker();
        int c56 = axiom(x, 1, 5, 6);
        int c67 = axiom(x, 1, 6, 7);
        int p56 = axiom(x, 2, 5, 6);
        int p67 = axiom(x, 2, 6, 7);
        int t = given(x, 50, 5, 51);
        int u = given(x, 51, 5, 52);
        int is = given(x, 50, 0, 5);
        int isOther = given(x, 50, 0, 6);
        int elseIs = given(x, 60, 0, 6);
        int same = given(x, 50, 1, 51);
        not(x, "below the other way round", 3, c67, c56);
        not(x, "below of properties", 3, p56, p67);
        not(x, "below of both", 3, c56, p67);
        not(x, "properties of classes", 4, c56, c67);
        not(x, "properties the other way round", 4, p67, p56);
        not(x, "class of another class", 5, c67, is);
        not(x, "class of properties", 5, p56, is);
        not(x, "class of a triple that is not IS", 5, c56, t);
        not(x, "class with premises changed", 5, is, c56);
        not(x, "property of classes", 6, c56, t);
        not(x, "property of another property", 6, p67, t);
        not(x, "begins of another", 7, axiom(x, 3, 6, 9), t);
        not(x, "begins by leads", 7, axiom(x, 4, 5, 9), t);
        not(x, "leads of another", 8, axiom(x, 4, 6, 9), t);
        not(x, "leads by begins", 8, axiom(x, 3, 5, 9), t);
        not(x, "either of another", 9, axiom(x, 7, 6, 0), t);
        not(x, "either by through", 9, axiom(x, 6, 5, 0), t);
        int through = axiom(x, 6, 5, 0);
        not(x, "through the other way round", 10, through, u, t);
        not(x, "through another", 10, axiom(x, 6, 6, 0), t, u);
        not(x, "through with another property", 10, through, t, given(x, 51, 6, 52));
        not(x, "through with another property first", 10, through, given(x, 50, 6, 51), u);
        not(x, "other of another", 11, axiom(x, 8, 6, 5), t);
        not(x, "swap of what is not SAME", 12, t);
        not(x, "swap of an axiom", 12, axiom(x, 10, 50, 51));
        not(x, "equal of another", 13, same, u);
        not(x, "equal of what is not SAME", 13, t, t);
        int one = axiom(x, 9, 5, 0);
        not(x, "one from two", 14, one, t, u);
        not(x, "one of another property", 14, one, t, given(x, 50, 6, 53));
        not(x, "one of another property first", 14, one, given(x, 50, 6, 54), t);
        not(x, "one of another", 14, axiom(x, 9, 6, 0), t, t);
        int apart = axiom(x, 5, 5, 6);
        not(x, "apart in the other order", 15, apart, isOther, is);
        not(x, "apart of two", 15, apart, is, elseIs);
        not(x, "apart of the same", 15, apart, is, is);
        int unlike = axiom(x, 10, 51, 50);
        not(x, "not in the other order", 16, unlike, same);
        not(x, "not of what is not SAME", 16, axiom(x, 10, 50, 51), t);
        int anything = x.row(17, 1, is);
        due("anything of no contradiction", x.check(anything), 0);
        due("apart holds in its order", x.check(row(x, 15, 0, apart, is, isOther)), 1);
    }

    private static void not(CountedChecker x, String what, int rule, int... premises) {
        dueStatement(what, x, row(x, rule, 0, premises), 0, 0, 0, 0);
    }

    private static void promise6CheckOfPremises() {
        CountedChecker x = new CountedChecker();
        int a = axiom(x, 1, 5, 6);
        int b = axiom(x, 1, 6, 7);
        int short1 = row(x, 3, 0, a);
        due("too few", x.check(short1), 0);
        due("none", x.check(x.row(3, 0, 0)), 0);
        int wrongRow = row(x, 3, 0, b, a);
        due("a premise that is not right", x.check(row(x, 3, 0, wrongRow, b)), 0);
        due("a row that is not in the proof does not matter", x.check(row(x, 3, 0, a, b)), 1);
    }

    private static void promise7Broken() {
        CountedChecker x = new CountedChecker();
        int a = axiom(x, 1, 5, 6);
        int b = axiom(x, 1, 6, 7);
        int lone = row(x, 3, 0, b, a);
        int bad = row(x, 3, 0, b, b);
        int above = row(x, 3, 0, a, bad);
        int good = row(x, 3, 0, a, b);
        int bad2 = row(x, 3, 0, a);
        int both = row(x, 3, 0, bad2, above);
        due("before", x.broken(), 0);
        due("check above", x.check(above), 0);
        due("least of the proof, not of all", x.broken(), bad);
        due("check good", x.check(good), 1);
        due("none", x.broken(), 0);
        due("check lone", x.check(lone), 0);
        due("the row itself", x.broken(), lone);
        due("check both", x.check(both), 0);
        due("the least of two", x.broken(), bad);
        due("refused", x.check(99), -1);
        due("a refused check looks at nothing", x.broken(), bad);
        x.sentence(good);
        x.rows(good);
        x.size(good);
        due("no other call is a check", x.broken(), bad);
        due("a row without premises", x.check(x.row(4, 0, 0)), 0);
        due("is broken itself", x.broken(), both + 1);
        int wantsMore = row(x, 3, 0, good, bad2);
        int onTop = row(x, 12, 0, wantsMore);
        due("check on top", x.check(onTop), 0);
        due("what has a broken premise is not broken", x.broken(), bad2);
    }

    private static void promise7BrokenIsWhatTheLatestCheckSaw() {
        CountedChecker x = new CountedChecker();
        int a = axiom(x, 1, 5, 5);
        int b = row(x, 3, 0, a);
        due("not right", x.check(b), 0);
        due("mended", x.premise(b, a), 2);
        due("what the check saw", x.broken(), b);
        due("right", x.check(b), 1);
        due("none now", x.broken(), 0);
    }

    private static void promise8Rows() {
        CountedChecker x = new CountedChecker();
        int a = axiom(x, 6, 5, 0);
        int t = given(x, 7, 5, 7);
        int lone = x.row(2, 3, 0);
        int r = row(x, 10, 0, a, t, t);
        int s = row(x, 10, 0, a, r, r);
        due("one", x.rows(lone), 1);
        due("each once", x.rows(r), 3);
        due("each once, further up", x.rows(s), 4);
        int bad = row(x, 3, 0, s, lone);
        due("also of a proof that is not right", x.rows(bad), 6);
        due("row 0", x.rows(0), -1);
        due("row -1", x.rows(-1), -1);
        due("no row", x.rows(bad + 1), -1);
    }

    private static void promise9Size() {
        CountedChecker x = new CountedChecker();
        int last = x.row(2, 1, 0);
        long want = 1;
        for (int i = 0; i < 40; i++) {
            due("size of row " + last, x.size(last), Math.min(want, 1000000000L));
            last = row(x, 3, 0, last, last);
            want = 2 * want + 1;
        }
        due("at most", x.size(last), 1000000000);
        for (int i = 0; i < 30; i++) {
            last = row(x, 10, 0, last, last, last);
        }
        due("at most, by threes", x.size(last), 1000000000);
        due("a small one still", x.size(2), 3);
        due("rows are counted once", x.rows(last), last);
        due("row 0", x.size(0), -1);
        due("no row", x.size(last + 1), -1);
        CountedChecker y = new CountedChecker();
        int a = axiom(y, 1, 2, 2);
        int b = row(y, 3, 0, a);
        due("a premise alone", y.size(b), 2);
    }

    private static void promise10Drop() {
        CountedChecker x = new CountedChecker();
        x.row(2, 900, 0);
        int a = axiom(x, 1, 5, 6);
        x.row(2, 901, 0);
        int b = axiom(x, 1, 6, 7);
        int bad = row(x, 3, 0, b, a);
        int c = row(x, 3, 0, a, b);
        int t = given(x, 9, 0, 5);
        int d = row(x, 5, 0, c, t);
        x.row(2, 902, 0);
        x.check(bad);
        String sentence = told(x, d);
        due("row 0", x.drop(0), -1);
        due("no row", x.drop(d + 2), -1);
        due("a refused drop changes nothing", x.broken(), bad);
        due("how many", x.drop(d), 5);
        due("the latest check counts as none", x.broken(), 0);
        due("the latest sentence stays", x.at(sentence.length() - 1), '.');
        due("the latest sentence stays", x.at(0), '8');
        due("row 1", told(x, 1), "1. class 5 is below class 6, by axiom.");
        due("row 2", told(x, 2), "2. class 6 is below class 7, by axiom.");
        due("row 3", told(x, 3), "3. class 5 is below class 7, by below from 1 and 2.");
        due("row 4", told(x, 4), "4. 9 is class 5, by given.");
        due("row 5", told(x, 5), "5. 9 is class 7, by class from 3 and 4.");
        due("no row 6", x.name(6), -1);
        due("a row that has gone is no premise", x.row(3, 0, 6), 0);
        due("the row itself is the last one", x.rows(5), 5);
        due("axioms stay", x.axiom(1, 1, 1), 3);
        due("triples stay", x.triple(9, 0, 5), 1);
        due("the next row", x.row(3, 0, 0), 6);
        due("has no premises of an older row", told(x, 6), "6. nothing, by below.");
        due("drop what is not right", x.drop(6), 1);
        due("it stays as it is", told(x, 1), "1. nothing, by below.");
        due("its check", x.check(1), 0);
    }

    private static void promise10DropMakesRoom() {
        CountedChecker x = new CountedChecker();
        for (int i = 1; i <= 299; i++) {
            x.row(2, i, 0);
        }
        int top = row(x, 12, 0, 150);
        due("full", x.row(2, 1, 0), 0);
        due("two are needed", x.drop(top), 2);
        due("the one that stays", x.states(1, 1), 150);
        due("there is room", x.row(2, 7, 0), 3);
        dueStatement("a row in the room", x, 3, 1, 7, 7, 0);
    }

    /** A premise more in an earlier row has the later ones looked at anew: they must be what they were. */
    private static void promise10DropKeepsWhatRowsAre() {
        CountedChecker x = new CountedChecker();
        x.row(2, 900, 0);
        x.triple(1, 2, 3);
        int apart = axiom(x, 5, 7, 7);
        x.row(2, 901, 0);
        int is = given(x, 4, 0, 7);
        int swap = x.row(12, 0, 0);
        int itself = x.row(2, 7, 0);
        int axiom = axiom(x, 1, 7, 8);
        int below = row(x, 3, 0, itself, axiom);
        int klass = row(x, 5, 0, below, is);
        int contradiction = row(x, 15, 0, apart, is, is);
        int anything = row(x, 17, x.triple(5, 6, 7), contradiction);
        int all = row(x, 14, 0, swap, klass, anything);
        due("two go", x.drop(all), all - 2);
        due("the swap has a premise", x.premise(swap - 2, apart - 1), 1);
        due("the swap", told(x, swap - 2), "3. nothing, by swap from 1.");
        due("axiom", told(x, axiom - 2), "5. class 7 is below class 8, by axiom.");
        due("itself", told(x, itself - 2), "4. class 7 is below class 7, by itself.");
        due("class", told(x, klass - 2), "7. 4 is class 8, by class from 6 and 2.");
        due("contradiction", told(x, contradiction - 2), "8. contradiction, by apart from 1 and 2 and 2.");
        due("anything", told(x, anything - 2), "9. 5 6 7, by anything from 8.");
        due("all", told(x, all - 2), "10. nothing, by one from 3 and 7 and 9.");
    }

    private static void promise11Name() {
        CountedChecker x = new CountedChecker();
        x.axiom(1, 5, 6);
        x.triple(1, 2, 3);
        for (int rule = 0; rule <= 17; rule++) {
            due("rule " + rule, x.name(x.row(rule, 1, 0)), rule);
        }
        due("row 0", x.name(0), -1);
        due("row -1", x.name(-1), -1);
        due("row 19", x.name(19), -1);
    }

    private static void promise12States() {
        CountedChecker x = new CountedChecker();
        int t = given(x, 7, 8, 9);
        dueStatement("a triple", x, t, 11, 7, 8, 9);
        dueStatement("one number", x, axiom(x, 6, 5, 4), 6, 5, 0, 0);
        dueStatement("two numbers", x, axiom(x, 10, 5, 4), 10, 5, 4, 0);
        int bad = x.row(3, 0, t);
        dueStatement("not right", x, bad, 0, 0, 0, 0);
        due("another what", x.states(t, 4), -2);
        due("another what", x.states(t, -1), -2);
        due("another what of what is not right", x.states(bad, 4), -2);
        due("no row", x.states(0, 0), -1);
        due("no row", x.states(bad + 1, 1), -1);
        due("no row comes first", x.states(0, 4), -1);
    }

    private static void promise13Statements() {
        String[] wording = {
            "class 5 is below class 600", "5 is below 600", "what 5 begins at is class 600",
            "what 5 leads to is class 600", "class 5 and class 600 have nothing in common",
            "5 goes through", "5 goes either way", "5 is 600 the other way", "5 leads to one",
            "5 is not 600"};
        for (int kind = 1; kind <= 10; kind++) {
            CountedChecker x = new CountedChecker();
            due("kind " + kind, told(x, axiom(x, kind, 5, 600)), "1. " + wording[kind - 1] + ", by axiom.");
        }
        CountedChecker x = new CountedChecker();
        due("a triple", told(x, given(x, 7, 80, 900)), "1. 7 80 900, by given.");
        due("an IS", told(x, given(x, 7, 0, 1)), "2. 7 is class 1, by given.");
        due("a SAME", told(x, given(x, 7, 1, 0)), "3. 7 is 0, by given.");
        due("terms 0 and 1 elsewhere", told(x, given(x, 0, 2, 1)), "4. 0 2 1, by given.");
        due("row 0", x.sentence(0), -1);
        due("no row", x.sentence(5), -1);
        due("the latest sentence stays", x.at(0), '4');
        due("how many bytes", x.sentence(1), "1. 7 80 900, by given.".length());
    }

    private static void promise13Rules() {
        String[] words = {"axiom", "given", "itself", "below", "properties", "class", "property", "begins",
            "leads", "either", "through", "other", "swap", "equal", "one", "apart", "not", "anything"};
        String[] stated = {"5 goes either way", "4 5 6", "class 1 is below class 1"};
        for (int rule = 0; rule <= 17; rule++) {
            CountedChecker x = new CountedChecker();
            x.axiom(7, 5, 0);
            x.triple(4, 5, 6);
            String what = rule < stated.length ? stated[rule] : "nothing";
            due("rule " + rule, told(x, x.row(rule, 1, 0)), "1. " + what + ", by " + words[rule] + ".");
        }
        CountedChecker x = new CountedChecker();
        int either = axiom(x, 7, 5, 0);
        int t = given(x, 4, 5, 6);
        due("one premise", told(x, row(x, 17, 1, t)), "3. nothing, by anything from 2.");
        due("two premises", told(x, row(x, 9, 0, either, t)), "4. 6 5 4, by either from 1 and 2.");
        due("three premises", told(x, row(x, 15, 0, 4, t, 3)), "5. nothing, by apart from 4 and 2 and 3.");
        int unlike = axiom(x, 10, 5, 5);
        int not = row(x, 16, 0, unlike, given(x, 5, 1, 5));
        due("a contradiction", told(x, not), "8. contradiction, by not from 6 and 7.");
        due("anything", told(x, row(x, 17, 1, not)), "9. 4 5 6, by anything from 8.");
    }

    private static void promise14At() {
        CountedChecker x = new CountedChecker();
        due("no sentence", x.at(0), -2);
        x.row(2, 7, 0);
        due("still none", x.at(0), -2);
        String want = "1. class 7 is below class 7, by itself.";
        due("length", x.sentence(1), want.length());
        for (int i = 0; i < want.length(); i++) {
            due("byte " + i, x.at(i), want.charAt(i));
        }
        due("before it", x.at(-1), -2);
        due("behind it", x.at(want.length()), -2);
        due("least", x.at(Integer.MIN_VALUE), -2);
        due("most", x.at(Integer.MAX_VALUE), -2);
        x.row(12, 0, 0);
        due("a shorter one", x.sentence(2), "2. nothing, by swap.".length());
        due("nothing of the longer one", x.at("2. nothing, by swap.".length()), -2);
    }

    private static void promise15Concludes() {
        CountedChecker x = new CountedChecker();
        int t = given(x, 7, 5, 8);
        given(x, 8, 5, 7);
        int either = row(x, 9, 0, axiom(x, 7, 5, 0), t);
        due("a given row", x.concludes(t, 1), true);
        due("another triple", x.concludes(t, 2), false);
        due("a row that gives it", x.concludes(either, 2), true);
        due("but not the other", x.concludes(either, 1), false);
        due("an axiom", x.concludes(3, 1), false);
        due("a row that is not right", x.concludes(row(x, 9, 0, 3), 2), false);
        due("no triple 0", x.concludes(t, 0), false);
        due("no triple 3", x.concludes(t, 3), false);
        due("no triple -1", x.concludes(t, -1), false);
        due("no triple 0 of a row that is not right", x.concludes(5, 0), false);
        due("no row", x.concludes(0, 1), false);
        due("no row", x.concludes(6, 1), false);
        due("no row and no triple", x.concludes(0, 0), false);
    }
}
