import java.util.ArrayList;
import java.util.List;

/**
 * The sentences of the document that name a boundary, in its order, each with a test of its own:
 * what is too small, too large, empty, full, refused, or at the very edge of what is not.
 */
public final class EdgesTest {
    private static final int LEAST = Integer.MIN_VALUE;
    private static final int MOST = Integer.MAX_VALUE;
    private static final int BILLION = 1000000000;

    private static final int[] TAKES = {0, 0, 0, 2, 2, 2, 2, 2, 2, 2, 3, 2, 1, 2, 3, 3, 2, 1};

    /** Around each number of rows, terms and kinds where an answer may change, and the ends of int. */
    private static final int[] WILD = {LEAST, LEAST + 1, -1000, -1, 0, 1, 2, 3, 4, 11, 12, 13, 17, 18, 100, 101,
        300, 301, 302, 303, 999, 1000, 65536, MOST - 1, MOST};

    private static String sentence = "";
    private static int wrong = 0;

    public static void main(String[] args) {
        terms();
        promises1To5();
        promises6To10();
        promises11To15();
        System.out.println(wrong == 0 ? "all edges hold" : wrong + " answers are wrong");
        if (wrong != 0) {
            System.exit(1);
        }
    }

    private static void terms() {
        termsAre0To999();
        zeroIsIs();
        oneIsSame();
        kindsHaveTheirNumbers();
        axiomsAreAtMost100();
        triplesAreAtMost100();
        axiomsAndTriplesHaveRoomEach();
        rowsAreAtMost300();
        rowsHaveAsManyPremisesAsWereLaid();
        instancesAreNotLookedAtByOthers();
        instancesAreLookedAtByFour();
        rulesAtOneTerm();
        rulesAtTheEndsOfTheTerms();
        rightWhenAllPremisesAre();
        rightWhenAsManyAsTheRuleTakes();
        rightWhenAsToldInThisOrder();
        theProofHasEachRowOnce();
        noRowComesBeforeOutOfRange();
        noRowComesBeforeWhatMayNotBe();
        outOfRangeComesBeforeNoRoom();
        aRefusedCallChangesNothing();
    }

    private static void promises1To5() {
        nothingIsThere();
        objectsShareNothing();
        axiomNumberBIsNotLookedAt();
        axiomThatIsThereComesAsAnother();
        axiomOfAnotherKind();
        axiomOfNoTerm();
        tripleThatIsThere();
        tripleThatIsThereNeedsNoRoom();
        tripleOfNoTerm();
        rowOfNoRule();
        rowOfNoAxiom();
        rowOfNoTriple();
        rowOfNoTerm();
        rowOnNoRow();
        rowWithAPremiseThatItsRuleDoesNotTake();
        rowWithoutRoom();
        rowThatIsRefusedTakesNoNumber();
        premiseForTheLastRowOrOneBeforeIt();
        premiseOfNoRow();
        premiseThatIsNotBefore();
        premiseThatTheRuleDoesNotTake();
        premiseInAFullObject();
    }

    private static void promises6To10() {
        checkOfNoRow();
        brokenBeforeAnyCheck();
        brokenWhenThereIsNone();
        brokenIsTheLeast();
        brokenHasRightPremises();
        brokenIsOfTheProofAlone();
        brokenIsOfTheLatestCheck();
        brokenAfterARefusedCheck();
        rowsAtTheFewestAndTheMost();
        rowsOfNoRow();
        sizeIsOneBillionAtMost();
        sizeDoesNotWrapAround();
        sizeOfNoRow();
        dropOfAllButOne();
        dropOfNothing();
        dropOfRowsBehind();
        dropKeepsTheOrder();
        dropTellsPremisesByNewNumbers();
        dropKeepsAxiomsAndTriples();
        dropKeepsTheLatestSentence();
        dropCountsTheLatestCheckAsNone();
        dropOfAFullObject();
        dropOfNoRow();
    }

    private static void promises11To15() {
        nameOfNoRow();
        statesNothingWhenNotRight();
        statesAnotherWhat();
        statesOfNoRow();
        sentenceOfNoPremises();
        sentenceOfOneToThreePremises();
        sentenceOfNothing();
        sentenceOfTriplesAtIsAndSame();
        sentenceNumbersByTheirDigits();
        sentenceAtTheLargestNumbers();
        sentenceOfNoRow();
        atBeforeAnySentence();
        atTheEndsOfTheSentence();
        atOfAShorterSentence();
        atOfARefusedSentence();
        concludesOfARowThatIsNotRight();
        concludesOfNoTripleOrRow();
        concludesByTheTripleNotTheRow();
        noArgumentsStopAnObject();
    }

    // What the tests are made of.

    private static void says(String text) {
        sentence = text;
    }

    private static void due(String what, long got, long want) {
        if (got != want) {
            wrong++;
            System.out.println("[" + sentence + "] " + what + " answered " + got + ", due is " + want);
        }
    }

    private static void due(String what, boolean got, boolean want) {
        due(what, got ? 1 : 0, want ? 1 : 0);
    }

    private static void dueTold(CountedChecker x, int row, String want) {
        due("length of: " + want, x.sentence(row), want.length());
        for (int i = 0; i < want.length(); i++) {
            due("byte " + i + " of: " + want, x.at(i), want.charAt(i));
        }
        due("behind: " + want, x.at(want.length()), -2);
    }

    private static void dueStated(String what, CountedChecker x, int row, int... numbers) {
        for (int i = 0; i < 4; i++) {
            due(what + ": states(" + row + ", " + i + ")", x.states(row, i), i < numbers.length ? numbers[i] : 0);
        }
        due(what + ": check(" + row + ")", x.check(row), numbers.length > 0 ? 1 : 0);
    }

    private static int row(CountedChecker x, int rule, int instance, int... premises) {
        int row = x.row(rule, instance, premises.length > 0 ? premises[0] : 0);
        for (int i = 1; i < premises.length; i++) {
            due("premise(" + row + ", " + premises[i] + ")", x.premise(row, premises[i]), i + 1);
        }
        return row;
    }

    private static int axiom(CountedChecker x, int kind, int a, int b) {
        return row(x, 0, x.axiom(kind, a, b));
    }

    private static int given(CountedChecker x, int s, int p, int o) {
        return row(x, 1, x.triple(s, p, o));
    }

    private static boolean isTerm(int number) {
        return number >= 0 && number <= 999;
    }

    private static boolean hasOneNumber(int kind) {
        return kind == 6 || kind == 7 || kind == 9;
    }

    private static CountedChecker fullOfRows() {
        CountedChecker x = new CountedChecker();
        for (int i = 1; i <= 300; i++) {
            due("row " + i, x.row(2, i, 0), i);
        }
        return x;
    }

    // Terms

    private static void termsAre0To999() {
        says("TERMS are 0 .. 999");
        for (int term : new int[] {0, 1, 998, 999}) {
            CountedChecker x = new CountedChecker();
            dueStated("axiom", x, axiom(x, 1, term, 500), 1, term, 500);
            dueStated("axiom", x, axiom(x, 1, 500, term), 1, 500, term);
            dueStated("axiom", x, axiom(x, 6, term, 500), 6, term);
            dueStated("triple", x, given(x, term, 500, 501), 11, term, 500, 501);
            dueStated("triple", x, given(x, 500, term, 501), 11, 500, term, 501);
            dueStated("triple", x, given(x, 500, 501, term), 11, 500, 501, term);
            dueStated("itself", x, x.row(2, term, 0), 1, term, term);
        }
        for (int none : new int[] {-1, 1000, LEAST, MOST}) {
            CountedChecker x = new CountedChecker();
            due("axiom a = " + none, x.axiom(1, none, 500), -2);
            due("axiom b = " + none, x.axiom(1, 500, none), -2);
            due("axiom of one number = " + none, x.axiom(6, none, 500), -2);
            due("triple s = " + none, x.triple(none, 500, 501), -2);
            due("triple p = " + none, x.triple(500, none, 501), -2);
            due("triple o = " + none, x.triple(500, 501, none), -2);
            due("itself " + none, x.row(2, none, 0), 0);
        }
    }

    private static void zeroIsIs() {
        says("0 is IS");
        CountedChecker x = new CountedChecker();
        int c = axiom(x, 1, 5, 6);
        int d = axiom(x, 5, 5, 6);
        int is5 = given(x, 9, 0, 5);
        int is6 = given(x, 9, 0, 6);
        dueStated("class", x, row(x, 5, 0, c, is5), 11, 9, 0, 6);
        dueStated("apart", x, row(x, 15, 0, d, is5, is6), 12);
        dueStated("begins", x, row(x, 7, 0, axiom(x, 3, 2, 6), given(x, 9, 2, 8)), 11, 9, 0, 6);
        dueStated("leads", x, row(x, 8, 0, axiom(x, 4, 2, 6), given(x, 9, 2, 8)), 11, 8, 0, 6);
        for (int other : new int[] {1, 2, 999}) {
            int not5 = given(x, 9, other, 5);
            int not6 = given(x, 9, other, 6);
            dueStated("class by " + other, x, row(x, 5, 0, c, not5));
            dueStated("apart by " + other + " first", x, row(x, 15, 0, d, not5, is6));
            dueStated("apart by " + other + " last", x, row(x, 15, 0, d, is5, not6));
        }
        dueStated("IS is a property too", x, row(x, 6, 0, axiom(x, 2, 0, 7), is5), 11, 9, 7, 5);
    }

    private static void oneIsSame() {
        says("1 is SAME");
        CountedChecker x = new CountedChecker();
        int same = given(x, 8, 1, 9);
        int unlike = axiom(x, 10, 8, 9);
        int t = given(x, 8, 7, 3);
        int u = given(x, 8, 7, 4);
        dueStated("swap", x, row(x, 12, 0, same), 11, 9, 1, 8);
        dueStated("equal", x, row(x, 13, 0, same, t), 11, 9, 7, 3);
        dueStated("not", x, row(x, 16, 0, unlike, same), 12);
        dueStated("one", x, row(x, 14, 0, axiom(x, 9, 7, 0), t, u), 11, 3, 1, 4);
        for (int other : new int[] {0, 2, 999}) {
            int not = given(x, 8, other, 9);
            dueStated("swap by " + other, x, row(x, 12, 0, not));
            dueStated("equal by " + other, x, row(x, 13, 0, not, t));
            dueStated("not by " + other, x, row(x, 16, 0, unlike, not));
        }
        dueStated("SAME is a property too", x, row(x, 9, 0, axiom(x, 7, 1, 0), same), 11, 9, 1, 8);
    }

    private static void kindsHaveTheirNumbers() {
        says("Kinds 6, 7, 9 have one number, 11 three, 12 none, others two");
        CountedChecker x = new CountedChecker();
        for (int kind = 1; kind <= 10; kind++) {
            int row = axiom(x, kind, 998, 999);
            dueStated("kind " + kind, x, row, kind, 998, hasOneNumber(kind) ? 0 : 999, 0);
        }
        dueStated("kind 11", x, given(x, 997, 998, 999), 11, 997, 998, 999);
        int unlike = axiom(x, 10, 998, 999);
        dueStated("kind 12", x, row(x, 16, 999, unlike, given(x, 998, 1, 999)), 12, 0, 0, 0);
    }

    private static void axiomsAreAtMost100() {
        says("AXIOMS are numbered from 1, at most 100");
        CountedChecker x = new CountedChecker();
        for (int i = 1; i <= 100; i++) {
            due("axiom " + i, x.axiom(1, i, 999 - i), i);
        }
        due("axiom 101", x.axiom(1, 101, 898), -4);
        due("axiom 101, of one that is there", x.axiom(1, 100, 899), -4);
        due("axiom 101, of one number", x.axiom(9, 101, -1), -4);
        dueStated("axiom 1", x, x.row(0, 1, 0), 1, 1, 998);
        dueStated("axiom 100", x, x.row(0, 100, 0), 1, 100, 899);
        due("there is no axiom 0", x.row(0, 0, 0), 0);
        due("there is no axiom 101", x.row(0, 101, 0), 0);
    }

    private static void triplesAreAtMost100() {
        says("GIVEN triples are numbered from 1, at most 100");
        CountedChecker x = new CountedChecker();
        for (int i = 1; i <= 100; i++) {
            due("triple " + i, x.triple(i, 5, 999 - i), i);
        }
        due("triple 101", x.triple(101, 5, 898), -4);
        dueStated("triple 1", x, x.row(1, 1, 0), 11, 1, 5, 998);
        dueStated("triple 100", x, x.row(1, 100, 0), 11, 100, 5, 899);
        due("there is no triple 0", x.row(1, 0, 0), 0);
        due("there is no triple 101", x.row(1, 101, 0), 0);
        due("nothing is anything of triple 101", x.row(17, 101, 0), 0);
        due("anything is of triple 100", x.row(17, 100, 0), 3);
        due("concludes 100", x.concludes(2, 100), true);
        due("concludes 101", x.concludes(2, 101), false);
    }

    private static void axiomsAndTriplesHaveRoomEach() {
        says("at most 100 of each");
        CountedChecker x = new CountedChecker();
        for (int i = 1; i <= 100; i++) {
            due("axiom " + i, x.axiom(10, i, i), i);
            due("triple " + i, x.triple(i, i, i), i);
        }
        due("axiom 101", x.axiom(10, 5, 5), -4);
        due("triple 101", x.triple(5, 5, 6), -4);
        for (int i = 1; i <= 300; i++) {
            due("row " + i, x.row(i % 2, 100, 0), i);
        }
        due("row 301", x.row(0, 100, 0), 0);
        due("row 299 is given", x.states(299, 0), 11);
        due("row 300 is an axiom", x.states(300, 0), 10);
    }

    private static void rowsAreAtMost300() {
        says("ROWS are numbered from 1, at most 300");
        CountedChecker x = fullOfRows();
        due("row 301", x.row(2, 301, 0), 0);
        due("row 301 with a premise", x.row(12, 0, 300), 0);
        due("name(0)", x.name(0), -1);
        due("name(1)", x.name(1), 2);
        due("name(300)", x.name(300), 2);
        due("name(301)", x.name(301), -1);
        dueStated("row 1", x, 1, 1, 1, 1);
        dueStated("row 300", x, 300, 1, 300, 300);
    }

    private static void rowsHaveAsManyPremisesAsWereLaid() {
        says("as many premises as were laid to it");
        for (int rule = 3; rule <= 17; rule++) {
            CountedChecker x = new CountedChecker();
            x.triple(5, 6, 7);
            x.row(2, 5, 0);
            int r = x.row(rule, 1, 0);
            due("rule " + rule + ": none", x.size(r), 1);
            for (int laid = 1; laid <= TAKES[rule]; laid++) {
                due("rule " + rule + ": premise " + laid, x.premise(r, 1), laid);
                due("rule " + rule + ": laid " + laid, x.size(r), laid + 1);
            }
        }
    }

    private static void instancesAreNotLookedAtByOthers() {
        says("their instance is not looked at but by 0, 1, 2, 17");
        for (int rule = 3; rule <= 16; rule++) {
            CountedChecker x = new CountedChecker();
            int laid = 0;
            for (int instance : WILD) {
                due("row(" + rule + ", " + instance + ", 0)", x.row(rule, instance, 0), ++laid);
                due("name", x.name(laid), rule);
            }
        }
        CountedChecker x = new CountedChecker();
        int t = given(x, 8, 1, 9);
        for (int instance : WILD) {
            dueStated("swap with instance " + instance, x, row(x, 12, instance, t), 11, 9, 1, 8);
        }
    }

    private static void instancesAreLookedAtByFour() {
        says("0, 1, 2, 17: the axiom, the triple, the term, the triple of that number");
        CountedChecker x = new CountedChecker();
        x.axiom(1, 5, 6);
        x.axiom(10, 7, 8);
        x.triple(7, 1, 8);
        x.triple(2, 3, 4);
        dueStated("axiom 1", x, x.row(0, 1, 0), 1, 5, 6);
        dueStated("axiom 2", x, x.row(0, 2, 0), 10, 7, 8);
        dueStated("given 1", x, x.row(1, 1, 0), 11, 7, 1, 8);
        dueStated("given 2", x, x.row(1, 2, 0), 11, 2, 3, 4);
        dueStated("itself 2", x, x.row(2, 2, 0), 1, 2, 2);
        int contradiction = row(x, 16, 0, 2, 3);
        dueStated("anything 1", x, x.row(17, 1, contradiction), 11, 7, 1, 8);
        dueStated("anything 2", x, x.row(17, 2, contradiction), 11, 2, 3, 4);
    }

    private static void rulesAtOneTerm() {
        says("the rules, where all that they speak of is one term");
        CountedChecker x = new CountedChecker();
        int c = x.row(2, 5, 0);
        int p = axiom(x, 2, 5, 5);
        int t = given(x, 5, 5, 5);
        dueStated("below", x, row(x, 3, 0, c, c), 1, 5, 5);
        dueStated("properties", x, row(x, 4, 0, p, p), 2, 5, 5);
        dueStated("property", x, row(x, 6, 0, p, t), 11, 5, 5, 5);
        dueStated("begins", x, row(x, 7, 0, axiom(x, 3, 5, 5), t), 11, 5, 0, 5);
        dueStated("leads", x, row(x, 8, 0, axiom(x, 4, 5, 5), t), 11, 5, 0, 5);
        dueStated("either", x, row(x, 9, 0, axiom(x, 7, 5, 0), t), 11, 5, 5, 5);
        dueStated("through", x, row(x, 10, 0, axiom(x, 6, 5, 0), t, t), 11, 5, 5, 5);
        dueStated("other", x, row(x, 11, 0, axiom(x, 8, 5, 5), t), 11, 5, 5, 5);
        dueStated("one", x, row(x, 14, 0, axiom(x, 9, 5, 0), t, t), 11, 5, 1, 5);
        int same = given(x, 5, 1, 5);
        dueStated("swap", x, row(x, 12, 0, same), 11, 5, 1, 5);
        dueStated("equal", x, row(x, 13, 0, same, t), 11, 5, 5, 5);
        dueStated("equal of SAME", x, row(x, 13, 0, same, same), 11, 5, 1, 5);
        int not = row(x, 16, 0, axiom(x, 10, 5, 5), same);
        dueStated("not", x, not, 12);
        int is = given(x, 5, 0, 5);
        dueStated("class", x, row(x, 5, 0, c, is), 11, 5, 0, 5);
        dueStated("apart", x, row(x, 15, 0, axiom(x, 5, 5, 5), is, is), 12);
        dueStated("anything", x, row(x, 17, 1, not), 11, 5, 5, 5);
    }

    private static void rulesAtTheEndsOfTheTerms() {
        says("the rules, where what they speak of are the terms 0, 1 and 999");
        CountedChecker x = new CountedChecker();
        int up = axiom(x, 1, 0, 999);
        int down = axiom(x, 1, 999, 0);
        dueStated("below", x, row(x, 3, 0, up, down), 1, 0, 0);
        dueStated("below", x, row(x, 3, 0, down, up), 1, 999, 999);
        int pUp = axiom(x, 2, 0, 999);
        int pDown = axiom(x, 2, 999, 0);
        dueStated("properties", x, row(x, 4, 0, pUp, pDown), 2, 0, 0);
        dueStated("class", x, row(x, 5, 0, up, given(x, 999, 0, 0)), 11, 999, 0, 999);
        dueStated("property", x, row(x, 6, 0, pDown, given(x, 1, 999, 0)), 11, 1, 0, 0);
        dueStated("begins", x, row(x, 7, 0, axiom(x, 3, 0, 0), given(x, 999, 0, 0)), 11, 999, 0, 0);
        dueStated("leads", x, row(x, 8, 0, axiom(x, 4, 1, 0), given(x, 999, 1, 0)), 11, 0, 0, 0);
        dueStated("either", x, row(x, 9, 0, axiom(x, 7, 0, 0), given(x, 999, 0, 0)), 11, 0, 0, 999);
        int through = axiom(x, 6, 0, 0);
        dueStated("through", x, row(x, 10, 0, through, given(x, 999, 0, 0), given(x, 0, 0, 1)), 11, 999, 0, 1);
        dueStated("other", x, row(x, 11, 0, axiom(x, 8, 999, 0), given(x, 0, 999, 999)), 11, 999, 0, 0);
        dueStated("swap", x, row(x, 12, 0, given(x, 0, 1, 999)), 11, 999, 1, 0);
        dueStated("equal", x, row(x, 13, 0, given(x, 0, 1, 999), given(x, 0, 0, 0)), 11, 999, 0, 0);
        int one = axiom(x, 9, 1, 0);
        dueStated("one", x, row(x, 14, 0, one, given(x, 0, 1, 0), given(x, 0, 1, 999)), 11, 0, 1, 999);
        int apart = axiom(x, 5, 0, 999);
        dueStated("apart", x, row(x, 15, 0, apart, given(x, 0, 0, 0), given(x, 0, 0, 999)), 12);
        int not = row(x, 16, 0, axiom(x, 10, 0, 999), given(x, 0, 1, 999));
        dueStated("not", x, not, 12);
        dueStated("anything", x, row(x, 17, x.triple(0, 0, 0), not), 11, 0, 0, 0);
    }

    private static void rightWhenAllPremisesAre() {
        says("a row is RIGHT when all its premises are");
        CountedChecker x = new CountedChecker();
        int through = axiom(x, 6, 5, 0);
        int t = given(x, 7, 5, 7);
        int open = x.row(9, 0, 0);
        for (int place = 0; place < 3; place++) {
            int r = row(x, 10, 0, place == 0 ? open : through, place == 1 ? open : t, place == 2 ? open : t);
            dueStated("not right: premise " + place, x, r);
        }
        dueStated("all are right", x, row(x, 10, 0, through, t, t), 11, 7, 5, 7);
        due("the open one", x.premise(open, axiom(x, 6, 5, 0)), -3);
        CountedChecker y = new CountedChecker();
        int either = axiom(y, 7, 5, 0);
        int first = given(y, 7, 5, 8);
        int lower = y.row(9, 0, either);
        int upper = row(y, 9, 0, either, lower);
        int top = row(y, 9, 0, either, upper);
        dueStated("two rows up", y, top);
        due("the lowest is laid", y.premise(lower, first), 2);
        dueStated("lower", y, lower, 11, 8, 5, 7);
        dueStated("upper", y, upper, 11, 7, 5, 8);
        dueStated("two rows up, at once", y, top, 11, 8, 5, 7);
    }

    private static void rightWhenAsManyAsTheRuleTakes() {
        says("it has as many as its rule takes");
        CountedChecker x = new CountedChecker();
        int through = axiom(x, 6, 5, 0);
        int t = given(x, 7, 5, 7);
        int three = x.row(10, 0, 0);
        dueStated("none of three", x, three);
        x.premise(three, through);
        dueStated("one of three", x, three);
        x.premise(three, t);
        dueStated("two of three", x, three);
        x.premise(three, t);
        dueStated("three of three", x, three, 11, 7, 5, 7);
        int either = axiom(x, 7, 5, 0);
        int two = x.row(9, 0, 0);
        dueStated("none of two", x, two);
        x.premise(two, either);
        dueStated("one of two", x, two);
        x.premise(two, t);
        dueStated("two of two", x, two, 11, 7, 5, 7);
        int same = given(x, 7, 1, 8);
        int one = x.row(12, 0, 0);
        dueStated("none of one", x, one);
        x.premise(one, same);
        dueStated("one of one", x, one, 11, 8, 1, 7);
        int contradiction = row(x, 16, 0, axiom(x, 10, 7, 8), same);
        int anything = x.row(17, 1, 0);
        dueStated("none of one", x, anything);
        x.premise(anything, contradiction);
        dueStated("one of one", x, anything, 11, 7, 5, 7);
    }

    private static void rightWhenAsToldInThisOrder() {
        says("what their premises have to be, in this order");
        CountedChecker x = new CountedChecker();
        int through = axiom(x, 6, 5, 0);
        int t = given(x, 7, 5, 8);
        int u = given(x, 8, 5, 9);
        int[] all = {through, t, u};
        for (int order = 0; order < 27; order++) {
            int r = row(x, 10, 0, all[order / 9], all[order / 3 % 3], all[order % 3]);
            boolean right = order == 5;
            due("through, order " + order, x.check(r), right ? 1 : 0);
        }
        int apart = axiom(x, 5, 3, 4);
        int is3 = given(x, 7, 0, 3);
        int is4 = given(x, 7, 0, 4);
        dueStated("apart", x, row(x, 15, 0, apart, is3, is4), 12);
        dueStated("apart, changed", x, row(x, 15, 0, apart, is4, is3));
        dueStated("apart, axiom last", x, row(x, 15, 0, is3, is4, apart));
        int unlike = axiom(x, 10, 7, 8);
        int same = given(x, 7, 1, 8);
        dueStated("not", x, row(x, 16, 0, unlike, same), 12);
        dueStated("not, changed", x, row(x, 16, 0, same, unlike));
        dueStated("not, of the same swapped", x, row(x, 16, 0, unlike, row(x, 12, 0, same)));
    }

    private static void theProofHasEachRowOnce() {
        says("the proof of a row is that row, its premises, theirs, and so on, each once");
        CountedChecker x = new CountedChecker();
        int a = x.row(2, 5, 0);
        x.row(2, 6, 0);
        int b = row(x, 3, 0, a, a);
        int c = row(x, 3, 0, a, b);
        int d = row(x, 3, 0, c, b);
        due("the row alone", x.rows(a), 1);
        due("a premise twice", x.rows(b), 2);
        due("a premise and its own", x.rows(c), 3);
        due("theirs", x.rows(d), 4);
        due("a proof that each has for itself", x.size(d), 1 + (1 + 1 + 3) + 3);
        due("cut", x.drop(d), 4);
    }

    private static void noRowComesBeforeOutOfRange() {
        says("the first of these that fits: -1 a row that there is not, -2 a number outside a range");
        CountedChecker x = new CountedChecker();
        due("states(0, 4) on nothing", x.states(0, 4), -1);
        x.row(3, 0, 0);
        for (int none : new int[] {0, -1, 2, LEAST, MOST}) {
            due("states(" + none + ", -1)", x.states(none, -1), -1);
            due("states(" + none + ", 4)", x.states(none, 4), -1);
        }
        due("states(1, 4)", x.states(1, 4), -2);
    }

    private static void noRowComesBeforeWhatMayNotBe() {
        says("the first of these that fits: -1 a row that there is not, -3 what may not be");
        CountedChecker x = new CountedChecker();
        x.row(2, 5, 0);
        x.row(2, 6, 0);
        due("takes no more, other behind the last", x.premise(2, 3), -1);
        due("takes no more, other 0", x.premise(2, 0), -1);
        due("no row 3, other the same", x.premise(3, 3), -1);
        due("no row 0, other behind it", x.premise(0, 1), -1);
        due("no row -1, other behind it", x.premise(-1, 2), -1);
        due("neither is a row", x.premise(9, 0), -1);
        due("takes no more", x.premise(2, 1), -3);
    }

    private static void outOfRangeComesBeforeNoRoom() {
        says("the first of these that fits: -2 a number outside a range, -4 no room");
        CountedChecker x = new CountedChecker();
        for (int i = 1; i <= 100; i++) {
            x.axiom(1, i, i);
            x.triple(i, i, i);
        }
        due("axiom of kind 0", x.axiom(0, 5, 5), -2);
        due("axiom of kind 11", x.axiom(11, 5, 5), -2);
        due("axiom a", x.axiom(1, 1000, 5), -2);
        due("axiom b", x.axiom(1, 5, -1), -2);
        due("axiom of one number, a", x.axiom(9, -1, 5), -2);
        due("axiom of one number, b", x.axiom(9, 5, -1), -4);
        due("triple s", x.triple(-1, 5, 6), -2);
        due("triple p", x.triple(5, 1000, 6), -2);
        due("triple o", x.triple(5, 6, -1), -2);
        due("axiom in range", x.axiom(1, 5, 5), -4);
        due("triple in range", x.triple(5, 5, 6), -4);
    }

    private static void aRefusedCallChangesNothing() {
        says("a refused call answers, and that is all");
        CountedChecker x = someProof();
        CountedChecker y = someProof();
        x.axiom(0, 1, 1);
        x.axiom(1, 1, 1000);
        x.triple(1, 1000, 1);
        x.row(18, 0, 1);
        x.row(0, 3, 0);
        x.row(1, 3, 0);
        x.row(2, 1000, 0);
        x.row(3, 0, 8);
        x.row(2, 5, 1);
        x.premise(8, 1);
        x.premise(5, 5);
        x.premise(5, 6);
        x.premise(4, 1);
        x.check(8);
        x.rows(8);
        x.size(8);
        x.drop(8);
        x.drop(0);
        x.name(8);
        x.states(8, 0);
        x.states(4, 4);
        x.sentence(8);
        x.sentence(0);
        x.at(1000);
        x.concludes(8, 1);
        sameAnswers(x, y);
    }

    /** Seven rows: two that are right as axioms, a triple, one on them, one open, one on that, one more. */
    private static CountedChecker someProof() {
        CountedChecker x = new CountedChecker();
        axiom(x, 1, 5, 6);
        axiom(x, 1, 6, 7);
        given(x, 9, 0, 5);
        row(x, 3, 0, 1, 2);
        row(x, 5, 0, 4);
        row(x, 6, 0, 5, 3);
        row(x, 5, 0, 4, 3);
        x.triple(9, 0, 7);
        due("check(6)", x.check(6), 0);
        due("sentence(7)", x.sentence(7), 39);
        return x;
    }

    private static void sameAnswers(CountedChecker x, CountedChecker y) {
        due("broken", x.broken(), y.broken());
        for (int i = -1; i <= 40; i++) {
            due("at(" + i + ")", x.at(i), y.at(i));
        }
        for (int row = 0; row <= 8; row++) {
            due("name(" + row + ")", x.name(row), y.name(row));
            due("check(" + row + ")", x.check(row), y.check(row));
            due("broken after check(" + row + ")", x.broken(), y.broken());
            due("rows(" + row + ")", x.rows(row), y.rows(row));
            due("size(" + row + ")", x.size(row), y.size(row));
            due("sentence(" + row + ")", x.sentence(row), y.sentence(row));
            for (int what = 0; what <= 3; what++) {
                due("states(" + row + ", " + what + ")", x.states(row, what), y.states(row, what));
            }
            due("concludes(" + row + ", 2)", x.concludes(row, 2), y.concludes(row, 2));
        }
        due("the next axiom", x.axiom(1, 1, 1), y.axiom(1, 1, 1));
        due("the next triple", x.triple(1, 1, 1), y.triple(1, 1, 1));
        due("the next row", x.row(2, 1, 0), y.row(2, 1, 0));
        due("the next premise", x.premise(5, 3), y.premise(5, 3));
    }

    // Promise 1

    private static void nothingIsThere() {
        says("Nothing is there");
        for (int i : new int[] {LEAST, -1, 0, 1, 2, 100, 300, MOST}) {
            CountedChecker x = new CountedChecker();
            due("axiom row " + i, x.row(0, i, 0), 0);
            due("given row " + i, x.row(1, i, 0), 0);
            due("anything row " + i, x.row(17, i, 0), 0);
            due("premise(" + i + ", 1)", x.premise(i, 1), -1);
            due("premise(1, " + i + ")", x.premise(1, i), -1);
            due("check(" + i + ")", x.check(i), -1);
            due("broken", x.broken(), 0);
            due("rows(" + i + ")", x.rows(i), -1);
            due("size(" + i + ")", x.size(i), -1);
            due("drop(" + i + ")", x.drop(i), -1);
            due("name(" + i + ")", x.name(i), -1);
            due("states(" + i + ", 0)", x.states(i, 0), -1);
            due("sentence(" + i + ")", x.sentence(i), -1);
            due("at(" + i + ")", x.at(i), -2);
            due("concludes(" + i + ", 1)", x.concludes(i, 1), false);
            due("concludes(1, " + i + ")", x.concludes(1, i), false);
            if (i != 0) {
                due("row on " + i, x.row(3, 0, i), 0);
            }
            due("the first row", x.row(3, 0, 0), 1);
            due("the first axiom", x.axiom(1, 1, 1), 1);
            due("the first triple", x.triple(1, 1, 1), 1);
        }
    }

    private static void objectsShareNothing() {
        says("ProofChecker(): Nothing is there (also beside another one)");
        CountedChecker x = new CountedChecker();
        int swap = x.row(12, 0, given(x, 7, 1, 8));
        axiom(x, 1, 5, 6);
        x.check(x.row(3, 0, 0));
        x.sentence(swap);
        CountedChecker y = new CountedChecker();
        due("axiom", y.axiom(6, 1, 0), 1);
        due("triple", y.triple(7, 1, 8), 1);
        due("row", y.row(2, 1, 0), 1);
        due("broken", y.broken(), 0);
        due("at", y.at(0), -2);
        due("name", y.name(2), -1);
        due("name of the older one", x.name(2), 12);
        due("broken of the older one", x.broken(), 4);
        due("sentence of the older one", x.at(0), '2');
        dueStated("row of the older one", x, swap, 11, 8, 1, 7);
    }

    // Promise 2

    private static void axiomNumberBIsNotLookedAt() {
        says("the kinds with one number have no b: it is not looked at");
        for (int kind = 1; kind <= 10; kind++) {
            CountedChecker x = new CountedChecker();
            int laid = 0;
            for (int b : WILD) {
                boolean taken = hasOneNumber(kind) || isTerm(b);
                due("axiom(" + kind + ", 5, " + b + ")", x.axiom(kind, 5, b), taken ? ++laid : -2);
                if (taken && hasOneNumber(kind)) {
                    dueStated("axiom(" + kind + ", 5, " + b + ")", x, x.row(0, laid, 0), kind, 5);
                }
            }
        }
    }

    private static void axiomThatIsThereComesAsAnother() {
        says("one that is there already comes as another one");
        for (int kind = 1; kind <= 10; kind++) {
            CountedChecker x = new CountedChecker();
            for (int i = 1; i <= 100; i++) {
                due("axiom(" + kind + ", 5, 6) again", x.axiom(kind, 5, 6), i);
            }
            due("and again", x.axiom(kind, 5, 6), -4);
        }
    }

    private static void axiomOfAnotherKind() {
        says("-2 for another kind");
        CountedChecker x = new CountedChecker();
        int laid = 0;
        for (int kind : WILD) {
            boolean there = kind >= 1 && kind <= 10;
            due("axiom(" + kind + ", 5, 6)", x.axiom(kind, 5, 6), there ? ++laid : -2);
        }
        due("kind 10", x.axiom(10, 5, 6), ++laid);
        due("kind 9", x.axiom(9, 5, 6), ++laid);
        due("kind 5", x.axiom(5, 5, 6), ++laid);
    }

    private static void axiomOfNoTerm() {
        says("-2 for a number that is no term");
        for (int kind = 1; kind <= 10; kind++) {
            CountedChecker x = new CountedChecker();
            int laid = 0;
            for (int a : WILD) {
                due("axiom(" + kind + ", " + a + ", 6)", x.axiom(kind, a, 6), isTerm(a) ? ++laid : -2);
            }
            due("neither is one", x.axiom(kind, -1, 1000), -2);
        }
    }

    // Promise 3

    private static void tripleThatIsThere() {
        says("its number (also when it is there already)");
        CountedChecker x = new CountedChecker();
        int[][] all = {{5, 6, 7}, {5, 7, 6}, {6, 5, 7}, {6, 7, 5}, {7, 5, 6}, {7, 6, 5}, {0, 0, 0}, {999, 999, 999}};
        for (int round = 0; round < 2; round++) {
            for (int i = 0; i < all.length; i++) {
                due("triple " + i, x.triple(all[i][0], all[i][1], all[i][2]), i + 1);
            }
        }
        due("an axiom is no triple", x.axiom(1, 5, 6), 1);
        due("the next", x.triple(5, 6, 0), all.length + 1);
    }

    private static void tripleThatIsThereNeedsNoRoom() {
        says("Then there need be no room");
        CountedChecker x = new CountedChecker();
        for (int i = 1; i <= 100; i++) {
            x.triple(i, 0, 5);
        }
        due("another", x.triple(101, 0, 5), -4);
        for (int i = 1; i <= 100; i++) {
            due("triple " + i + " again", x.triple(i, 0, 5), i);
        }
        due("another still", x.triple(101, 0, 5), -4);
        due("out of range", x.triple(1, 0, 1000), -2);
    }

    private static void tripleOfNoTerm() {
        says("triple: -2");
        CountedChecker x = new CountedChecker();
        int laid = 0;
        for (int i : WILD) {
            due("triple(" + i + ", 500, 501)", x.triple(i, 500, 501), isTerm(i) ? ++laid : -2);
            due("triple(500, " + i + ", 501)", x.triple(500, i, 501), isTerm(i) ? ++laid : -2);
            due("triple(500, 501, " + i + ")", x.triple(500, 501, i), isTerm(i) ? ++laid : -2);
        }
        due("none of them", x.triple(-1, 1000, MOST), -2);
    }

    // Promise 4

    private static void rowOfNoRule() {
        says("0 when there is no such rule");
        for (int instance : new int[] {0, 1, 5}) {
            CountedChecker x = new CountedChecker();
            x.axiom(1, 5, 6);
            x.triple(5, 6, 7);
            int laid = 0;
            for (int rule : WILD) {
                boolean there = rule >= 0 && rule <= 17;
                boolean has = rule != 0 && rule != 1 && rule != 17 || instance == 1;
                due("row(" + rule + ", " + instance + ", 0)", x.row(rule, instance, 0), there && has ? ++laid : 0);
            }
        }
    }

    private static void rowOfNoAxiom() {
        says("0 when there is no such axiom");
        CountedChecker x = new CountedChecker();
        x.triple(5, 6, 7);
        x.triple(5, 6, 8);
        x.triple(5, 6, 9);
        due("a triple is no axiom", x.row(0, 1, 0), 0);
        x.axiom(1, 5, 6);
        x.axiom(1, 5, 7);
        int laid = 0;
        for (int i : WILD) {
            due("row(0, " + i + ", 0)", x.row(0, i, 0), i == 1 || i == 2 ? ++laid : 0);
        }
    }

    private static void rowOfNoTriple() {
        says("0 when there is no such triple (rules 1, 17)");
        CountedChecker x = new CountedChecker();
        x.axiom(1, 5, 6);
        x.axiom(1, 5, 7);
        x.axiom(1, 5, 8);
        due("an axiom is no triple", x.row(1, 1, 0), 0);
        due("an axiom is no triple", x.row(17, 1, 0), 0);
        x.triple(5, 6, 7);
        x.triple(5, 6, 8);
        int laid = 0;
        for (int i : WILD) {
            boolean there = i == 1 || i == 2;
            due("row(1, " + i + ", 0)", x.row(1, i, 0), there ? ++laid : 0);
            due("row(17, " + i + ", 0)", x.row(17, i, 0), there ? ++laid : 0);
            if (laid > 0) {
                due("row(17, " + i + ", 1)", x.row(17, i, 1), there ? ++laid : 0);
            }
        }
    }

    private static void rowOfNoTerm() {
        says("0 when there is no such term (rule 2)");
        CountedChecker x = new CountedChecker();
        int laid = 0;
        for (int i : WILD) {
            due("row(2, " + i + ", 0)", x.row(2, i, 0), isTerm(i) ? ++laid : 0);
        }
    }

    private static void rowOnNoRow() {
        says("premise 0 is none, else a row; 0 when there is no such row");
        for (int rule = 3; rule <= 17; rule++) {
            CountedChecker x = new CountedChecker();
            x.triple(5, 6, 7);
            int laid = 0;
            for (int i : WILD) {
                boolean there = i >= 0 && i <= laid;
                due("row(" + rule + ", 1, " + i + ") after " + laid, x.row(rule, 1, i), there ? ++laid : 0);
            }
            due("its own number", x.row(rule, 1, laid + 1), 0);
            due("the last one", x.row(rule, 1, laid), ++laid);
            due("premise 0 is none", x.size(1), 1);
        }
    }

    private static void rowWithAPremiseThatItsRuleDoesNotTake() {
        says("0 when a premise but the rule takes none");
        for (int rule = 0; rule <= 17; rule++) {
            CountedChecker x = new CountedChecker();
            x.axiom(1, 5, 6);
            x.triple(5, 6, 7);
            x.row(2, 5, 0);
            due("row(" + rule + ", 1, 1)", x.row(rule, 1, 1), rule <= 2 ? 0 : 2);
            due("row(" + rule + ", 1, 0)", x.row(rule, 1, 0), rule <= 2 ? 2 : 3);
        }
    }

    private static void rowWithoutRoom() {
        says("row: 0 when there is no room");
        CountedChecker x = new CountedChecker();
        x.axiom(1, 5, 6);
        x.triple(5, 6, 7);
        for (int i = 1; i <= 299; i++) {
            x.row(3, i, 0);
        }
        due("row 300", x.row(12, 0, 299), 300);
        for (int rule = 0; rule <= 17; rule++) {
            due("row(" + rule + ", 1, 0)", x.row(rule, 1, 0), 0);
            due("row(" + rule + ", 1, 1)", x.row(rule, 1, 1), 0);
        }
        due("the last row", x.name(300), 12);
        due("the last row's premise", x.rows(300), 2);
    }

    private static void rowThatIsRefusedTakesNoNumber() {
        says("row: 0, and nothing is laid");
        CountedChecker x = new CountedChecker();
        due("first", x.row(2, 5, 0), 1);
        due("no rule", x.row(18, 0, 0), 0);
        due("no axiom", x.row(0, 1, 0), 0);
        due("no row", x.row(3, 0, 2), 0);
        due("takes none", x.row(2, 5, 1), 0);
        due("row 2", x.name(2), -1);
        due("second", x.row(2, 6, 0), 2);
        dueStated("second", x, 2, 1, 6, 6);
    }

    // Promise 5

    private static void premiseForTheLastRowOrOneBeforeIt() {
        says("the last row that was laid, or one before it, has a premise more: how many");
        CountedChecker x = new CountedChecker();
        int a = x.row(2, 5, 0);
        int early = x.row(10, 0, 0);
        int late = x.row(10, 0, 0);
        int last = x.row(15, 0, early);
        due("the last", x.premise(last, a), 2);
        due("the one before", x.premise(late, early), 1);
        due("an early one", x.premise(early, a), 1);
        due("the one before", x.premise(late, a), 2);
        due("the last", x.premise(last, a), 3);
        due("an early one, the same premise", x.premise(early, a), 2);
        due("an early one, the same premise", x.premise(early, a), 3);
        due("the one before", x.premise(late, early), 3);
        dueTold(x, early, "2. nothing, by through from 1 and 1 and 1.");
        dueTold(x, late, "3. nothing, by through from 2 and 1 and 2.");
        dueTold(x, last, "4. nothing, by apart from 2 and 1 and 1.");
    }

    private static void premiseOfNoRow() {
        says("premise: -1 when one of them is none");
        CountedChecker x = new CountedChecker();
        x.row(10, 0, 0);
        x.row(10, 0, 0);
        for (int i : WILD) {
            if (i != 1 && i != 2) {
                due("premise(" + i + ", 1)", x.premise(i, 1), -1);
                due("premise(2, " + i + ")", x.premise(2, i), -1);
                due("premise(" + i + ", " + i + ")", x.premise(i, i), -1);
            }
        }
        due("both are", x.premise(2, 1), 1);
    }

    private static void premiseThatIsNotBefore() {
        says("-3 when the other one is not before it");
        CountedChecker x = new CountedChecker();
        for (int i = 1; i <= 4; i++) {
            x.row(10, 0, 0);
        }
        for (int row = 1; row <= 4; row++) {
            for (int other = 4; other >= row; other--) {
                due("premise(" + row + ", " + other + ")", x.premise(row, other), -3);
            }
            due("nothing was laid to " + row, x.size(row), 1);
        }
        due("the one just before", x.premise(4, 3), 1);
        due("the very first", x.premise(4, 1), 2);
    }

    private static void premiseThatTheRuleDoesNotTake() {
        says("-3 when its rule takes no more");
        for (int rule = 0; rule <= 17; rule++) {
            CountedChecker x = new CountedChecker();
            x.axiom(1, 5, 6);
            x.triple(5, 6, 7);
            x.row(2, 5, 0);
            x.row(2, 6, 0);
            int r = x.row(rule, 1, 0);
            for (int laid = 1; laid <= TAKES[rule]; laid++) {
                due("rule " + rule + ": premise " + laid, x.premise(r, 1), laid);
            }
            due("rule " + rule + " takes no more", x.premise(r, 1), -3);
            due("rule " + rule + " takes no other", x.premise(r, 2), -3);
            due("rule " + rule + ": as many as it takes", x.size(r), TAKES[rule] + 1);
            due("rule " + rule + ": neither is row 2 in it", x.rows(r), TAKES[rule] == 0 ? 1 : 2);
        }
    }

    private static void premiseInAFullObject() {
        says("premise: a row of 300 has its premises all the same");
        CountedChecker x = new CountedChecker();
        int through = axiom(x, 6, 5, 0);
        int t = given(x, 7, 5, 7);
        for (int i = 3; i <= 300; i++) {
            x.row(10, 0, through);
        }
        due("row 300", x.premise(300, t), 2);
        due("row 300", x.premise(300, 3), 3);
        due("row 300 is full", x.premise(300, t), -3);
        due("row 301", x.premise(301, t), -1);
        due("other 301", x.premise(300, 301), -1);
        dueStated("row 300", x, 300);
        due("row 3", x.premise(3, t), 2);
        due("row 3", x.premise(3, t), 3);
        dueStated("row 300 on it", x, 300, 11, 7, 5, 7);
        due("its rows", x.rows(300), 4);
    }

    // Promise 6

    private static void checkOfNoRow() {
        says("check: -1");
        CountedChecker x = new CountedChecker();
        x.row(2, 5, 0);
        x.row(3, 0, 1);
        for (int i : WILD) {
            due("check(" + i + ")", x.check(i), i == 1 ? 1 : i == 2 ? 0 : -1);
        }
    }

    // Promise 7

    private static void brokenBeforeAnyCheck() {
        says("broken: 0 before");
        CountedChecker x = new CountedChecker();
        due("nothing is there", x.broken(), 0);
        x.row(3, 0, 0);
        due("a row that is not right", x.broken(), 0);
        x.sentence(1);
        x.rows(1);
        x.size(1);
        x.states(1, 0);
        x.concludes(1, 1);
        due("looked at by others", x.broken(), 0);
        due("a refused check", x.check(2), -1);
        due("still none", x.broken(), 0);
        due("check", x.check(1), 0);
        due("then", x.broken(), 1);
    }

    private static void brokenWhenThereIsNone() {
        says("broken: 0 when there was none");
        CountedChecker x = new CountedChecker();
        int bad = x.row(3, 0, 0);
        int a = x.row(2, 5, 0);
        int b = row(x, 3, 0, a, a);
        x.check(bad);
        due("one", x.broken(), bad);
        due("a right row", x.check(a), 1);
        due("none", x.broken(), 0);
        x.check(bad);
        due("a right proof", x.check(b), 1);
        due("none", x.broken(), 0);
    }

    private static void brokenIsTheLeast() {
        says("the least row of the proof");
        CountedChecker x = new CountedChecker();
        for (int i = 1; i <= 5; i++) {
            x.row(10, 0, 0);
        }
        int low = row(x, 10, 0, 5, 3, 4);
        int high = row(x, 10, 0, low, 2, low);
        x.check(low);
        due("3 of 5, 3, 4", x.broken(), 3);
        x.check(high);
        due("2 of all", x.broken(), 2);
        x.check(1);
        due("row 1", x.broken(), 1);
    }

    private static void brokenHasRightPremises() {
        says("that is not RIGHT though all its premises are");
        CountedChecker x = new CountedChecker();
        int a = x.row(2, 5, 0);
        int is = given(x, 9, 0, 5);
        int bad = row(x, 5, 0, is, a);
        int above = row(x, 5, 0, a, bad);
        int top = row(x, 15, 0, a, above, is);
        due("check", x.check(top), 0);
        due("neither what is above it nor what is right", x.broken(), bad);
        x.check(above);
        due("from the row above", x.broken(), bad);
        x.check(bad);
        due("from the row itself", x.broken(), bad);
    }

    private static void brokenIsOfTheProofAlone() {
        says("of the proof that check() looked at");
        CountedChecker x = new CountedChecker();
        x.row(3, 0, 0);
        int a = x.row(2, 5, 0);
        x.row(3, 0, 0);
        int bad = row(x, 3, 0, a);
        int top = row(x, 3, 0, bad, a);
        x.row(3, 0, 0);
        due("check", x.check(top), 0);
        due("neither an earlier row nor one between", x.broken(), bad);
    }

    private static void brokenIsOfTheLatestCheck() {
        says("that check() looked at latest");
        CountedChecker x = new CountedChecker();
        for (int i = 1; i <= 3; i++) {
            x.row(3, 0, 0);
        }
        for (int i : new int[] {2, 3, 1, 3, 2}) {
            x.check(i);
            due("check(" + i + ")", x.broken(), i);
            due("asked again", x.broken(), i);
        }
        x.row(3, 0, 1);
        due("a row since then", x.broken(), 2);
    }

    private static void brokenAfterARefusedCheck() {
        says("a refused check() looks at no proof");
        CountedChecker x = new CountedChecker();
        x.row(3, 0, 0);
        x.check(1);
        for (int i : new int[] {0, 2, -1, LEAST, MOST}) {
            due("check(" + i + ")", x.check(i), -1);
            due("broken after it", x.broken(), 1);
        }
    }

    // Promise 8

    private static void rowsAtTheFewestAndTheMost() {
        says("how many rows the proof of a row has");
        CountedChecker x = new CountedChecker();
        x.row(2, 5, 0);
        for (int i = 2; i <= 300; i++) {
            x.row(12, 0, i - 1);
        }
        due("one", x.rows(1), 1);
        due("two", x.rows(2), 2);
        due("all but one", x.rows(299), 299);
        due("all", x.rows(300), 300);
        due("size of all", x.size(300), 300);
        CountedChecker y = fullOfRows();
        due("the last of 300, alone", y.rows(300), 1);
    }

    private static void rowsOfNoRow() {
        says("rows: -1");
        CountedChecker x = new CountedChecker();
        x.row(2, 5, 0);
        x.row(3, 0, 1);
        for (int i : WILD) {
            due("rows(" + i + ")", x.rows(i), i == 1 ? 1 : i == 2 ? 2 : -1);
        }
    }

    // Promise 9

    private static void sizeIsOneBillionAtMost() {
        says("10^9 at most");
        for (int beside = -2; beside <= 3; beside++) {
            CountedChecker x = new CountedChecker();
            int row = rowOfSize(x, BILLION + beside);
            due("size 10^9 + " + beside, x.size(row), Math.min(BILLION, BILLION + beside));
            due("the row on it", x.size(x.row(12, 0, row)), Math.min(BILLION, BILLION + beside + 1));
        }
        for (int size = 1; size <= 100; size++) {
            CountedChecker x = new CountedChecker();
            due("size " + size, x.size(rowOfSize(x, size)), size);
        }
    }

    /** Halves what is wanted down to 1, then lays it up: twice a row and one, or once a row and one. */
    private static int rowOfSize(CountedChecker x, int size) {
        List<Integer> sizes = new ArrayList<>();
        for (int left = size; left > 1; left = left % 2 == 0 ? left - 1 : left / 2) {
            sizes.add(left);
        }
        int row = x.row(2, 5, 0);
        for (int i = sizes.size() - 1; i >= 0; i--) {
            row = sizes.get(i) % 2 == 0 ? row(x, 3, 0, row) : row(x, 3, 0, row, row);
        }
        return row;
    }

    private static void sizeDoesNotWrapAround() {
        says("10^9 at most, however many");
        CountedChecker x = new CountedChecker();
        x.row(2, 5, 0);
        long want = 1;
        for (int i = 2; i <= 120; i++) {
            row(x, 10, 0, i - 1, i - 1, i - 1);
            want = Math.min(BILLION, 3 * want + 1);
            due("size(" + i + ")", x.size(i), want);
        }
        due("rows", x.rows(120), 120);
    }

    private static void sizeOfNoRow() {
        says("size: -1");
        CountedChecker x = new CountedChecker();
        x.row(2, 5, 0);
        x.row(3, 0, 1);
        for (int i : WILD) {
            due("size(" + i + ")", x.size(i), i == 1 ? 1 : i == 2 ? 2 : -1);
        }
    }

    // Promise 10

    private static void dropOfAllButOne() {
        says("all rows that the proof of a row does not need go");
        for (int keep = 1; keep <= 4; keep++) {
            CountedChecker x = new CountedChecker();
            for (int i = 1; i <= 4; i++) {
                x.row(2, 10 * i, 0);
            }
            due("drop(" + keep + ")", x.drop(keep), 1);
            dueStated("the one that stays", x, 1, 1, 10 * keep, 10 * keep);
            due("name(1)", x.name(1), 2);
            due("name(2)", x.name(2), -1);
            due("the next row", x.row(3, 0, 1), 2);
        }
    }

    private static void dropOfNothing() {
        says("drop: how many, when all are needed");
        CountedChecker x = someProof();
        CountedChecker y = someProof();
        int all = row(x, 10, 0, 6, 7);
        row(y, 10, 0, 6, 7);
        due("drop", x.drop(all), all);
        due("again", x.drop(all), all);
        y.check(4);
        sameAnswers(x, y);
    }

    private static void dropOfRowsBehind() {
        says("the row itself is the last one");
        CountedChecker x = new CountedChecker();
        int a = x.row(2, 5, 0);
        int b = row(x, 3, 0, a, a);
        x.row(3, 0, b);
        x.row(3, 0, b);
        due("drop", x.drop(b), 2);
        due("the last one", x.name(2), 3);
        for (int gone : new int[] {3, 4}) {
            due("name", x.name(gone), -1);
            due("check", x.check(gone), -1);
            due("rows", x.rows(gone), -1);
            due("size", x.size(gone), -1);
            due("states", x.states(gone, 0), -1);
            due("sentence", x.sentence(gone), -1);
            due("drop", x.drop(gone), -1);
            due("concludes", x.concludes(gone, 1), false);
            due("premise of it", x.premise(gone, 1), -1);
            due("it as premise", x.premise(2, gone), -1);
            due("row on it", x.row(3, 0, gone), 0);
        }
        due("the next row", x.row(12, 0, 0), 3);
        dueStated("is a new one", x, 3);
        due("without premises", x.size(3), 1);
    }

    private static void dropKeepsTheOrder() {
        says("those that stay keep their order, and get the numbers from 1 on");
        CountedChecker x = new CountedChecker();
        for (int i = 1; i <= 9; i++) {
            x.row(2, i, 0);
        }
        int top = row(x, 10, 0, 8, 2, 5);
        due("drop", x.drop(top), 4);
        dueStated("first", x, 1, 1, 2, 2);
        dueStated("second", x, 2, 1, 5, 5);
        dueStated("third", x, 3, 1, 8, 8);
        due("the row itself", x.name(4), 10);
        due("no fifth", x.name(5), -1);
    }

    private static void dropTellsPremisesByNewNumbers() {
        says("premises of rows that stay are those that they were");
        CountedChecker x = new CountedChecker();
        for (int i = 1; i <= 9; i++) {
            x.row(2, i, 0);
        }
        int mid = row(x, 3, 0, 9);
        int top = row(x, 10, 0, mid, 4, 4);
        due("drop", x.drop(top), 4);
        dueTold(x, 1, "1. class 4 is below class 4, by itself.");
        dueTold(x, 2, "2. class 9 is below class 9, by itself.");
        dueTold(x, 3, "3. nothing, by below from 2.");
        dueTold(x, 4, "4. nothing, by through from 3 and 1 and 1.");
        due("a premise more", x.premise(3, 2), 2);
        dueStated("is right then", x, 3, 1, 9, 9);
        due("takes no more", x.premise(4, 1), -3);
    }

    private static void dropKeepsAxiomsAndTriples() {
        says("Axioms, triples stay");
        CountedChecker x = new CountedChecker();
        for (int i = 1; i <= 100; i++) {
            x.axiom(1, i, i + 1);
            x.triple(i, 0, i);
        }
        x.row(2, 5, 0);
        x.row(2, 6, 0);
        due("drop", x.drop(2), 1);
        due("there is no room for axioms still", x.axiom(1, 5, 6), -4);
        due("nor for triples", x.triple(5, 0, 6), -4);
        due("a triple is there", x.triple(100, 0, 100), 100);
        dueStated("axiom 1", x, x.row(0, 1, 0), 1, 1, 2);
        dueStated("axiom 100", x, x.row(0, 100, 0), 1, 100, 101);
        dueStated("triple 1", x, x.row(1, 1, 0), 11, 1, 0, 1);
        dueStated("triple 100", x, x.row(1, 100, 0), 11, 100, 0, 100);
    }

    private static void dropKeepsTheLatestSentence() {
        says("the latest sentence stays");
        CountedChecker x = new CountedChecker();
        x.row(2, 5, 0);
        x.row(2, 6, 0);
        String text = "2. class 6 is below class 6, by itself.";
        due("sentence", x.sentence(2), text.length());
        due("drop of its row", x.drop(1), 1);
        for (int i = 0; i < text.length(); i++) {
            due("byte " + i, x.at(i), text.charAt(i));
        }
        due("behind it", x.at(text.length()), -2);
        CountedChecker y = new CountedChecker();
        y.row(2, 5, 0);
        y.drop(1);
        due("there is none still", y.at(0), -2);
    }

    private static void dropCountsTheLatestCheckAsNone() {
        says("the latest check() counts as none");
        CountedChecker x = new CountedChecker();
        x.row(3, 0, 0);
        x.check(1);
        due("before", x.broken(), 1);
        due("drop of nothing", x.drop(1), 1);
        due("after", x.broken(), 0);
        x.check(1);
        due("checked anew", x.broken(), 1);
    }

    private static void dropOfAFullObject() {
        says("drop, of 300");
        CountedChecker x = new CountedChecker();
        x.row(2, 5, 0);
        for (int i = 2; i <= 300; i++) {
            x.row(12, 0, i - 1);
        }
        due("none goes", x.drop(300), 300);
        due("there is no room", x.row(2, 5, 0), 0);
        due("one goes", x.drop(299), 299);
        due("there is room for one", x.row(12, 0, 299), 300);
        due("and no more", x.row(2, 5, 0), 0);
        due("its rows", x.rows(300), 300);
        due("all but one go", x.drop(1), 1);
        for (int i = 2; i <= 150; i++) {
            due("there is room again", x.row(2, i, 0), i);
        }
        due("a new row alone", x.rows(150), 1);
    }

    private static void dropOfNoRow() {
        says("drop: -1");
        for (int i : WILD) {
            CountedChecker x = new CountedChecker();
            x.row(3, 0, 0);
            x.row(3, 0, 1);
            x.check(2);
            x.sentence(1);
            boolean there = i == 1 || i == 2;
            due("drop(" + i + ")", x.drop(i), there ? i : -1);
            due("the check after it", x.broken(), there ? 0 : 1);
            due("the rows after it", x.rows(2), i == 1 ? -1 : 2);
        }
    }

    // Promise 11

    private static void nameOfNoRow() {
        says("the rule of a row; -1");
        CountedChecker x = new CountedChecker();
        x.axiom(1, 5, 6);
        x.triple(5, 6, 7);
        for (int rule = 17; rule >= 0; rule--) {
            x.row(rule, 1, 0);
        }
        for (int row = 1; row <= 18; row++) {
            due("name(" + row + ")", x.name(row), 18 - row);
        }
        for (int i : new int[] {0, -1, 19, 300, 301, LEAST, MOST}) {
            due("name(" + i + ")", x.name(i), -1);
        }
    }

    // Promise 12

    private static void statesNothingWhenNotRight() {
        says("states: 0 when it is not RIGHT");
        CountedChecker x = new CountedChecker();
        x.axiom(1, 5, 6);
        x.triple(5, 6, 7);
        for (int rule = 3; rule <= 17; rule++) {
            int row = x.row(rule, 1, 0);
            dueStated("rule " + rule, x, row);
        }
    }

    private static void statesAnotherWhat() {
        says("states: for another what -2");
        CountedChecker x = new CountedChecker();
        given(x, 7, 8, 9);
        x.row(3, 0, 0);
        int[] stated = {11, 7, 8, 9};
        for (int what : WILD) {
            boolean there = what >= 0 && what <= 3;
            due("states(1, " + what + ")", x.states(1, what), there ? stated[what] : -2);
            due("states(2, " + what + ")", x.states(2, what), there ? 0 : -2);
        }
    }

    private static void statesOfNoRow() {
        says("states: -1");
        CountedChecker x = new CountedChecker();
        x.row(2, 5, 0);
        int[] stated = {1, 5, 5, 0};
        for (int i : WILD) {
            for (int what = 0; what <= 3; what++) {
                due("states(" + i + ", " + what + ")", x.states(i, what), i == 1 ? stated[what] : -1);
            }
        }
    }

    // Promise 13

    private static void sentenceOfNoPremises() {
        says("if it has premises from and their numbers: without any");
        CountedChecker x = new CountedChecker();
        axiom(x, 9, 5, 0);
        given(x, 5, 6, 7);
        x.row(2, 5, 0);
        x.row(17, 1, 0);
        dueTold(x, 1, "1. 5 leads to one, by axiom.");
        dueTold(x, 2, "2. 5 6 7, by given.");
        dueTold(x, 3, "3. class 5 is below class 5, by itself.");
        dueTold(x, 4, "4. nothing, by anything.");
    }

    private static void sentenceOfOneToThreePremises() {
        says("if it has premises from and their numbers, joined by and");
        CountedChecker x = new CountedChecker();
        axiom(x, 6, 5, 0);
        given(x, 7, 5, 7);
        x.row(10, 0, 0);
        dueTold(x, 3, "3. nothing, by through.");
        x.premise(3, 1);
        dueTold(x, 3, "3. nothing, by through from 1.");
        x.premise(3, 2);
        dueTold(x, 3, "3. nothing, by through from 1 and 2.");
        x.premise(3, 2);
        dueTold(x, 3, "3. 7 5 7, by through from 1 and 2 and 2.");
    }

    private static void sentenceOfNothing() {
        says("what it states or nothing");
        String[] words = {"below", "properties", "class", "property", "begins", "leads", "either", "through",
            "other", "swap", "equal", "one", "apart", "not", "anything"};
        for (int rule = 3; rule <= 17; rule++) {
            CountedChecker x = new CountedChecker();
            x.triple(5, 6, 7);
            x.row(rule, 1, 0);
            dueTold(x, 1, "1. nothing, by " + words[rule - 3] + ".");
            x.row(rule, 1, 1);
            dueTold(x, 2, "2. nothing, by " + words[rule - 3] + " from 1.");
        }
    }

    private static void sentenceOfTriplesAtIsAndSame() {
        says("11 S P O with spaces, but is class for P = 0, is for P = 1");
        CountedChecker x = new CountedChecker();
        given(x, 0, 0, 0);
        given(x, 1, 1, 1);
        given(x, 0, 1, 0);
        given(x, 1, 0, 1);
        given(x, 2, 2, 2);
        given(x, 0, 2, 1);
        given(x, 999, 10, 999);
        dueTold(x, 1, "1. 0 is class 0, by given.");
        dueTold(x, 2, "2. 1 is 1, by given.");
        dueTold(x, 3, "3. 0 is 0, by given.");
        dueTold(x, 4, "4. 1 is class 1, by given.");
        dueTold(x, 5, "5. 2 2 2, by given.");
        dueTold(x, 6, "6. 0 2 1, by given.");
        dueTold(x, 7, "7. 999 10 999, by given.");
        CountedChecker y = new CountedChecker();
        axiom(y, 2, 0, 1);
        axiom(y, 10, 1, 0);
        axiom(y, 8, 0, 0);
        axiom(y, 5, 1, 0);
        dueTold(y, 1, "1. 0 is below 1, by axiom.");
        dueTold(y, 2, "2. 1 is not 0, by axiom.");
        dueTold(y, 3, "3. 0 is 0 the other way, by axiom.");
        dueTold(y, 4, "4. class 1 and class 0 have nothing in common, by axiom.");
    }

    private static void sentenceNumbersByTheirDigits() {
        says("numbers by their digits; single spaces");
        CountedChecker x = new CountedChecker();
        axiom(x, 6, 999, 0);
        given(x, 0, 999, 9);
        given(x, 9, 999, 10);
        for (int i = 4; i < 300; i++) {
            x.row(i % 2 == 0 ? 12 : 3, 0, i - 1);
        }
        int last = row(x, 10, 0, 1, 2, 3);
        due("the last row", last, 300);
        dueTold(x, 10, "10. nothing, by swap from 9.");
        dueTold(x, 101, "101. nothing, by below from 100.");
        dueTold(x, 300, "300. 0 999 10, by through from 1 and 2 and 3.");
        CountedChecker z = fullOfRows();
        z.drop(299);
        for (int i = 2; i < 100; i++) {
            z.row(2, 999, 0);
        }
        row(z, 15, 0, 99, 98, 10);
        dueTold(z, 100, "100. nothing, by apart from 99 and 98 and 10.");
        dueTold(z, 99, "99. class 999 is below class 999, by itself.");
        CountedChecker y = fullOfRows();
        y.drop(300);
        for (int i = 1; i <= 9; i++) {
            y.row(15, 0, i);
        }
        y.premise(10, 9);
        y.premise(10, 8);
        dueTold(y, 10, "10. nothing, by apart from 9 and 9 and 8.");
        dueTold(y, 1, "1. class 300 is below class 300, by itself.");
    }

    private static void sentenceAtTheLargestNumbers() {
        says("numbers by their digits, of the last rows");
        CountedChecker x = new CountedChecker();
        for (int i = 1; i < 300; i++) {
            x.row(4, 0, 0);
        }
        row(x, 14, 0, 299, 298, 297);
        dueTold(x, 300, "300. nothing, by one from 299 and 298 and 297.");
        dueTold(x, 299, "299. nothing, by properties.");
    }

    private static void sentenceOfNoRow() {
        says("sentence: -1");
        CountedChecker x = new CountedChecker();
        x.row(12, 0, 0);
        for (int i : WILD) {
            due("sentence(" + i + ")", x.sentence(i), i == 1 ? 20 : -1);
        }
    }

    // Promise 14

    private static void atBeforeAnySentence() {
        says("at: -2 when there is none, before a sentence");
        CountedChecker x = new CountedChecker();
        for (int i : WILD) {
            due("at(" + i + ")", x.at(i), -2);
        }
        x.row(2, 5, 0);
        x.sentence(2);
        for (int i : WILD) {
            due("at(" + i + ") after a refused sentence", x.at(i), -2);
        }
    }

    private static void atTheEndsOfTheSentence() {
        says("at: byte i of the latest sentence; -2 when there is none");
        CountedChecker x = new CountedChecker();
        x.row(12, 0, 0);
        String text = "1. nothing, by swap.";
        due("sentence", x.sentence(1), text.length());
        for (int i : WILD) {
            due("at(" + i + ")", x.at(i), i >= 0 && i < text.length() ? text.charAt(i) : -2);
        }
        due("the last byte", x.at(text.length() - 1), '.');
        due("behind it", x.at(text.length()), -2);
    }

    private static void atOfAShorterSentence() {
        says("at: of the latest sentence");
        CountedChecker x = new CountedChecker();
        axiom(x, 5, 100, 200);
        x.row(12, 0, 0);
        int shorter = "2. nothing, by swap.".length();
        int longer = "1. class 100 and class 200 have nothing in common, by axiom.".length();
        due("a long one", x.sentence(1), longer);
        due("its last byte", x.at(longer - 1), '.');
        due("a shorter one", x.sentence(2), shorter);
        due("its first byte", x.at(0), '2');
        due("its last byte", x.at(shorter - 1), '.');
        for (int i = shorter; i <= longer; i++) {
            due("byte " + i + " of the longer one", x.at(i), -2);
        }
        due("the long one again", x.sentence(1), longer);
        due("its last byte", x.at(longer - 1), '.');
    }

    private static void atOfARefusedSentence() {
        says("at: a refused sentence is none");
        CountedChecker x = new CountedChecker();
        x.row(12, 0, 0);
        x.sentence(1);
        for (int i : new int[] {0, 2, -1, LEAST, MOST}) {
            due("sentence(" + i + ")", x.sentence(i), -1);
            due("the first byte", x.at(0), '1');
            due("the last byte", x.at(19), '.');
            due("behind it", x.at(20), -2);
        }
    }

    // Promise 15

    private static void concludesOfARowThatIsNotRight() {
        says("whether a row is RIGHT and states a given triple");
        CountedChecker x = new CountedChecker();
        int either = axiom(x, 7, 5, 0);
        int t = given(x, 7, 5, 7);
        int r = row(x, 9, 0, either);
        int anything = x.row(17, 1, 0);
        due("not right yet", x.concludes(r, 1), false);
        due("not right, though its instance is the triple", x.concludes(anything, 1), false);
        x.premise(r, t);
        due("right", x.concludes(r, 1), true);
        due("the triple itself", x.concludes(t, 1), true);
        due("an axiom", x.concludes(either, 1), false);
    }

    private static void concludesOfNoTripleOrRow() {
        says("concludes: by a number that there is not");
        CountedChecker x = new CountedChecker();
        x.triple(0, 0, 0);
        x.row(1, 1, 0);
        x.row(3, 0, 0);
        for (int i : WILD) {
            due("concludes(" + i + ", 1)", x.concludes(i, 1), i == 1);
            due("concludes(1, " + i + ")", x.concludes(1, i), i == 1);
            due("concludes(2, " + i + ")", x.concludes(2, i), false);
            due("concludes(" + i + ", " + i + ")", x.concludes(i, i), i == 1);
        }
    }

    private static void concludesByTheTripleNotTheRow() {
        says("concludes: a given triple by its number, whichever row states it");
        CountedChecker x = new CountedChecker();
        int first = x.triple(7, 1, 8);
        int second = x.triple(8, 1, 7);
        int a = x.row(1, second, 0);
        int b = x.row(12, 0, a);
        due("row 1 states triple 2", x.concludes(a, second), true);
        due("not triple 1", x.concludes(a, first), false);
        due("row 2 states triple 1", x.concludes(b, first), true);
        due("not triple 2", x.concludes(b, second), false);
        int third = x.triple(8, 1, 8);
        due("one number differs", x.concludes(b, third), false);
        due("the others differ", x.concludes(b, x.triple(7, 0, 8)), false);
        due("the others differ", x.concludes(b, x.triple(7, 1, 9)), false);
        due("a contradiction is no triple", x.concludes(row(x, 16, 0, axiom(x, 10, 7, 8), b), first), false);
    }

    /** With every two arguments around an edge, in an object that holds as many rows as may be. */
    private static void noArgumentsStopAnObject() {
        says("no call throws, whatever its arguments");
        for (int a : WILD) {
            for (int b : WILD) {
                CountedChecker x = fullOfOpenRows();
                String by = " by " + a + ", " + b;
                boolean hasA = a >= 1 && a <= 300;
                boolean hasB = b >= 1 && b <= 300;
                due("row" + by, x.row(a, b, b), 0);
                due("check" + by, x.check(a), hasA ? a == 1 ? 1 : 0 : -1);
                due("broken" + by, x.broken(), hasA && a != 1 ? a : 0);
                due("rows" + by, x.rows(a), hasA ? a == 1 ? 1 : 2 : -1);
                due("size" + by, x.size(a), hasA ? a == 1 ? 1 : 2 : -1);
                due("name" + by, x.name(a), hasA ? a == 1 ? 1 : 10 : -1);
                int stated = b < 0 || b > 3 ? -2 : a != 1 ? 0 : b == 0 ? 11 : 5 + b;
                due("states" + by, x.states(a, b), hasA ? stated : -1);
                due("concludes" + by, x.concludes(a, b), a == 1 && b == 1);
                due("sentence" + by, x.sentence(a) > 0, hasA);
                due("at" + by, x.at(b) > 0, hasA && b >= 0 && b <= 18);
                due("premise" + by, x.premise(a, b), !hasA || !hasB ? -1 : b >= a ? -3 : 2);
                due("axiom" + by, x.axiom(a, b, b), a < 1 || a > 10 || !isTerm(b) ? -2 : 1);
                due("triple" + by, x.triple(a, b, a), !isTerm(a) || !isTerm(b) ? -2 : 2);
                due("drop" + by, x.drop(a) > 0, hasA);
            }
        }
    }

    /** Row 1 is the triple 6 7 8; the others are open, each with row 1 as its first premise. */
    private static CountedChecker fullOfOpenRows() {
        CountedChecker x = new CountedChecker();
        given(x, 6, 7, 8);
        for (int i = 2; i <= 300; i++) {
            x.row(10, i, 1);
        }
        return x;
    }
}
