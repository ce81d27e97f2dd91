/** Each boundary case that the document names, one case a method, on desks of its own. */
public final class BoundaryTest {
    private static final long MIN = Long.MIN_VALUE;
    private static final long MAX = Long.MAX_VALUE;
    private static final int[] NOT_NUMBERS_OF_THREE = {
        0, -1, -3, 4, 200, 201, 257, Integer.MIN_VALUE, Integer.MIN_VALUE + 1, Integer.MAX_VALUE};

    private static String now = "";
    private static int cases = 0;
    private static int wrong = 0;

    private static void run(String name, Runnable test) {
        now = name;
        cases++;
        test.run();
    }

    private static void due(String what, long got, long want) {
        if (got != want) {
            wrong++;
            System.out.println(now + ": " + what + " answered " + got + ", due is " + want);
        }
    }

    private static void due(String what, boolean got, boolean want) {
        due(what, got ? 1 : 0, want ? 1 : 0);
    }

    private static void same(String what, String got, String want) {
        if (!got.equals(want)) {
            wrong++;
            System.out.println(now + ": " + what + " is" + got + ", due is" + want);
        }
    }

    /** What lies outside 0 .. bound - 1: next to it, a whole turn away, and as far off as can be. */
    private static int[] outside(int bound) {
        return new int[] {-1, bound, -bound, 2 * bound, 256 + bound, Integer.MIN_VALUE, Integer.MAX_VALUE};
    }

    /** A desk with one thing of each kind: thing k + 1 is of kind k. */
    private static MainframeDesk deskOfAllKinds() {
        MainframeDesk x = new MainframeDesk();
        for (int kind = 0; kind < 8; kind++) {
            x.make(kind);
        }
        return x;
    }

    private static MainframeDesk deskOf(int count, int kind) {
        MainframeDesk x = new MainframeDesk();
        for (int i = 0; i < count; i++) {
            x.make(kind);
        }
        return x;
    }

    private static int thingFor(int call) {
        return call % 8 + 1;
    }

    /** All that can be seen of a desk of all kinds by calls that change nothing (46 calls). */
    private static String seen(MainframeDesk x) {
        StringBuilder all = new StringBuilder();
        for (int what = 0; what < 6; what++) {
            all.append(' ').append(x.told(what));
        }
        for (int kind = 0; kind < 8; kind++) {
            all.append(' ').append(x.numbers(kind));
        }
        for (int call = 0; call < 32; call++) {
            all.append(' ').append(x.again(call, thingFor(call), 0));
        }
        return all.toString();
    }

    public static void main(String[] args) {
        newDesks();
        collecting();
        answers();
        failures();
        making();
        refusals();
        rowsOfCalls();
        sums();
        failing();
        countsOfKindThree();
        telling();
        dropping();
        counting();
        secondDesks();
        System.out.println(cases + " cases, " + wrong + " answers that are not as due");
        if (wrong != 0) {
            System.exit(1);
        }
    }

    // Promise 1

    private static void newDesks() {
        run("1 no things: none is counted", BoundaryTest::newDeskCountsNone);
        run("1 no things: none can be called or dropped", BoundaryTest::newDeskHasNone);
        run("1 empty rows: calls in need are refused", BoundaryTest::newDeskRowsMeetNoNeed);
        run("1 empty rows: the first collected is the first", BoundaryTest::newDeskRowsCountFromOne);
        run("1 nothing told", BoundaryTest::newDeskTellsNothing);
        run("1 each answer is 0 at first", BoundaryTest::newDeskAnswersZero);
        run("1 each failure is 0 at first", BoundaryTest::newDeskFailsNever);
        run("1 a new desk after others were used", BoundaryTest::newDeskAfterOthers);
        run("1 the last of 512 calls", BoundaryTest::lastCallOfADesk);
    }

    private static void newDeskCountsNone() {
        MainframeDesk x = new MainframeDesk();
        for (int kind = 0; kind < 8; kind++) {
            due("numbers " + kind, x.numbers(kind), 0);
        }
    }

    private static void newDeskHasNone() {
        MainframeDesk x = new MainframeDesk();
        for (int call = 0; call < 32; call++) {
            due("again " + call, x.again(call, 1, 0), -2);
            due("call " + call, x.call(call, 1, 0), -2);
        }
        due("drop", x.drop(1), false);
        due("the first number", x.make(0), 1);
    }

    private static void newDeskRowsMeetNoNeed() {
        MainframeDesk x = deskOfAllKinds();
        for (int call = 24; call < 32; call++) {
            due("call " + call, x.call(call, thingFor(call), 0), -5);
        }
    }

    private static void newDeskRowsCountFromOne() {
        MainframeDesk x = new MainframeDesk();
        for (int row = 0; row < 4; row++) {
            due("collect " + row, x.collect(row, 5), 1);
        }
    }

    private static void newDeskTellsNothing() {
        MainframeDesk x = new MainframeDesk();
        for (int what = 0; what < 6; what++) {
            due("told " + what, x.told(what), 0);
        }
    }

    private static void newDeskAnswersZero() {
        for (int call = 0; call < 32; call++) {
            MainframeDesk x = deskOfAllKinds();
            x.collect(call % 4, 0);
            due("call " + call, x.call(call, thingFor(call), 0), 0);
        }
    }

    private static void newDeskFailsNever() {
        MainframeDesk x = new MainframeDesk();
        for (int call = 0; call < 32; call++) {
            due("fails " + call, x.fails(call, 1), 0);
        }
    }

    private static void newDeskAfterOthers() {
        String fresh = seen(deskOfAllKinds());
        MainframeDesk used = deskOfAllKinds();
        for (int call = 0; call < 32; call++) {
            used.answer(call, 9);
            used.fails(call, 1);
            used.collect(call % 4, 9);
            used.call(call, thingFor(call), 9);
        }
        same("another desk", seen(deskOfAllKinds()), fresh);
    }

    private static void lastCallOfADesk() {
        MainframeDesk x = deskOf(1, 3);
        for (int calls = 2; calls < 512; calls++) {
            due("call", x.call(3, 1, 0), calls - 2);
        }
        due("the last", x.told(5), 510);
    }

    // Promise 2

    private static void collecting() {
        run("2 no such row", BoundaryTest::collectInNoRow);
        run("2 the first and the last row", BoundaryTest::collectInEdgeRows);
        run("2 the 50th number", BoundaryTest::collectTheFiftieth);
        run("2 a row that has 50", BoundaryTest::collectInFullRow);
        run("2 a full row beside others", BoundaryTest::collectBesideFullRow);
        run("2 a full row that was taken", BoundaryTest::collectAfterFullRowWasTaken);
        run("2 numbers at both ends of 64 bits", BoundaryTest::collectEdgeNumbers);
    }

    private static void collectInNoRow() {
        MainframeDesk x = deskOfAllKinds();
        String before = seen(x);
        for (int row : outside(4)) {
            due("row " + row, x.collect(row, 3), -1);
        }
        same("the desk", seen(x), before);
        for (int row = 0; row < 4; row++) {
            due("the first in row " + row, x.collect(row, 3), 1);
        }
    }

    private static void collectInEdgeRows() {
        MainframeDesk x = deskOfAllKinds();
        due("row 0", x.collect(0, 4), 1);
        due("row 3", x.collect(3, 6), 1);
        due("row 0 taken", x.call(8, 1, 0), 4);
        due("row 3 taken", x.call(15, 8, 0), 6);
    }

    private static void fill(MainframeDesk x, int row, long v) {
        for (int i = 0; i < 50; i++) {
            x.collect(row, v);
        }
    }

    private static void collectTheFiftieth() {
        MainframeDesk x = deskOfAllKinds();
        for (int count = 1; count <= 49; count++) {
            due("collect", x.collect(1, 1), count);
        }
        due("the 50th", x.collect(1, 1000), 50);
        due("all 50 are taken", x.call(9, 2, 0), 1049);
    }

    private static void collectInFullRow() {
        for (int row = 0; row < 4; row++) {
            MainframeDesk x = deskOfAllKinds();
            fill(x, row, 2);
            due("the 51st in row " + row, x.collect(row, 1000), -1);
            due("the 52nd in row " + row, x.collect(row, 1000), -1);
            due("the sum of row " + row, x.call(8 + row, row + 1, 0), 100);
        }
    }

    private static void collectBesideFullRow() {
        MainframeDesk x = new MainframeDesk();
        fill(x, 2, 1);
        due("row 1", x.collect(1, 1), 1);
        due("row 3", x.collect(3, 1), 1);
        due("row 2", x.collect(2, 1), -1);
    }

    private static void collectAfterFullRowWasTaken() {
        MainframeDesk x = deskOfAllKinds();
        fill(x, 2, 1);
        due("taken", x.call(10, 3, 0), 50);
        for (int count = 1; count <= 50; count++) {
            due("collect", x.collect(2, 3), count);
        }
        due("full again", x.collect(2, 3), -1);
        due("taken again", x.call(10, 3, 0), 150);
    }

    private static void collectEdgeNumbers() {
        long[] edges = {0, -1, 1, MIN, MAX};
        for (long edge : edges) {
            MainframeDesk x = deskOfAllKinds();
            due("collect " + edge, x.collect(0, edge), 1);
            due("taken " + edge, x.call(24, 1, 0), edge);
        }
    }

    // Promise 3

    private static void answers() {
        run("3 no such call", BoundaryTest::answerOfNoCall);
        run("3 the first and the last call", BoundaryTest::answerOfEdgeCalls);
        run("3 answers at both ends of 64 bits", BoundaryTest::answerEdgeNumbers);
        run("3 an answer that is set anew", BoundaryTest::answerSetAnew);
    }

    private static void answerOfNoCall() {
        MainframeDesk x = deskOfAllKinds();
        String before = seen(x);
        for (int call : outside(32)) {
            due("answer of " + call, x.answer(call, 3), -1);
        }
        same("the desk", seen(x), before);
    }

    private static void answerOfEdgeCalls() {
        MainframeDesk x = deskOfAllKinds();
        due("answer of 0", x.answer(0, 4), 1);
        due("answer of 31", x.answer(31, 6), 1);
        x.collect(3, 0);
        due("call 0", x.call(0, 1, 0), 4);
        due("call 31", x.call(31, 8, 0), 6);
        due("call 1", x.call(1, 2, 0), 0);
        due("call 23", x.call(23, 8, 0), 0);
    }

    private static void answerEdgeNumbers() {
        MainframeDesk x = deskOfAllKinds();
        long[] edges = {0, -1, 1, MIN, MAX};
        for (long edge : edges) {
            due("answer " + edge, x.answer(6, edge), 1);
            due("call with " + edge, x.call(6, 7, 0), edge);
        }
    }

    private static void answerSetAnew() {
        MainframeDesk x = deskOfAllKinds();
        x.answer(4, 8);
        due("the first", x.call(4, 5, 0), 8);
        due("set anew", x.answer(4, 0), 1);
        due("back to 0", x.call(4, 5, 0), 0);
    }

    // Promise 4

    private static void failures() {
        run("4 no such call", BoundaryTest::failsOfNoCall);
        run("4 no such failure", BoundaryTest::failsWithNoFailure);
        run("4 neither such call nor such failure", BoundaryTest::failsWithNeither);
        run("4 what it was", BoundaryTest::failsTellsWhatItWas);
        run("4 the first and the last call", BoundaryTest::failsOfEdgeCalls);
        run("4 back to no failure", BoundaryTest::failsNoMore);
        run("4 what it was is no failure that is told", BoundaryTest::failsEndsNothing);
    }

    private static void failsOfNoCall() {
        MainframeDesk x = deskOfAllKinds();
        String before = seen(x);
        for (int call : outside(32)) {
            for (int kind = 0; kind <= 6; kind++) {
                due("fails of " + call, x.fails(call, kind), -1);
            }
        }
        same("the desk", seen(x), before);
    }

    private static void failsWithNoFailure() {
        MainframeDesk x = new MainframeDesk();
        x.fails(5, 2);
        for (int kind : outside(7)) {
            due("failure " + kind, x.fails(5, kind), -1);
            due("failure " + kind + " of the first call", x.fails(0, kind), -1);
        }
        due("what it was", x.fails(5, 0), 2);
        due("what the first was", x.fails(0, 0), 0);
    }

    private static void failsWithNeither() {
        MainframeDesk x = new MainframeDesk();
        due("both below", x.fails(-1, -1), -1);
        due("both above", x.fails(32, 7), -1);
    }

    private static void failsTellsWhatItWas() {
        for (int before = 0; before <= 6; before++) {
            for (int after = 0; after <= 6; after++) {
                MainframeDesk x = new MainframeDesk();
                due("from none to " + before, x.fails(9, before), 0);
                due("from " + before + " to " + after, x.fails(9, after), before);
                due("then " + after, x.fails(9, 0), after);
            }
        }
    }

    private static void failsOfEdgeCalls() {
        MainframeDesk x = new MainframeDesk();
        due("call 0", x.fails(0, 1), 0);
        due("call 31", x.fails(31, 6), 0);
        due("call 1 is as it was", x.fails(1, 0), 0);
        due("call 30 is as it was", x.fails(30, 0), 0);
        due("call 0 was", x.fails(0, 0), 1);
        due("call 31 was", x.fails(31, 0), 6);
    }

    private static void failsNoMore() {
        MainframeDesk x = deskOfAllKinds();
        x.answer(2, 40);
        x.fails(2, 6);
        due("what it was", x.fails(2, 0), 6);
        due("it answers", x.call(2, 3, 2), 42);
        due("no failure", x.told(3), 0);
    }

    private static void failsEndsNothing() {
        MainframeDesk x = deskOfAllKinds();
        for (int kind = 1; kind <= 6; kind++) {
            x.fails(0, kind);
        }
        for (int what = 0; what < 6; what++) {
            due("told " + what, x.told(what), 0);
        }
        due("the thing is there", x.numbers(0), 1);
    }

    // Promise 5

    private static void making() {
        run("5 a kind that is not so", BoundaryTest::makeOfNoKind);
        run("5 the first and the last kind", BoundaryTest::makeEdgeKinds);
        run("5 the 200th thing", BoundaryTest::makeTheLast);
        run("5 200 things", BoundaryTest::makeBeyondTheLast);
        run("5 200 things, some dropped", BoundaryTest::makeAfterDropping);
        run("5 200 things, some ended", BoundaryTest::makeAfterEnding);
        run("5 a number is never used twice", BoundaryTest::makeNeverUsesANumberTwice);
    }

    private static void makeOfNoKind() {
        MainframeDesk x = new MainframeDesk();
        for (int kind : outside(8)) {
            due("kind " + kind, x.make(kind), -1);
        }
        for (int kind = 0; kind < 8; kind++) {
            due("numbers " + kind, x.numbers(kind), 0);
        }
        due("no number was used", x.make(2), 1);
    }

    private static void makeEdgeKinds() {
        MainframeDesk x = new MainframeDesk();
        due("kind 0", x.make(0), 1);
        due("kind 7", x.make(7), 2);
        due("call 0", x.call(0, 1, 5), 5);
        due("call 7", x.call(7, 2, 5), 5);
    }

    private static void makeTheLast() {
        MainframeDesk x = deskOf(199, 6);
        due("thing 200 before", x.call(6, 200, 1), -2);
        due("the 200th", x.make(5), 200);
        due("thing 200", x.call(5, 200, 1), 1);
        due("thing 199", x.call(6, 199, 1), 1);
        due("thing 1", x.call(6, 1, 1), 1);
    }

    private static void makeBeyondTheLast() {
        MainframeDesk x = deskOf(200, 6);
        for (int kind = 0; kind < 8; kind++) {
            due("the 201st, of kind " + kind, x.make(kind), -1);
        }
        due("of no kind", x.make(8), -1);
        due("thing 201", x.call(6, 201, 1), -2);
        due("drop 201", x.drop(201), false);
        due("numbers", x.numbers(6), 200);
    }

    private static void makeAfterDropping() {
        MainframeDesk x = deskOf(200, 6);
        x.drop(1);
        x.drop(100);
        x.drop(200);
        due("make", x.make(6), -1);
        due("thing 1", x.call(6, 1, 0), -5);
        due("thing 200", x.call(6, 200, 0), -5);
        due("numbers", x.numbers(6), 197);
    }

    private static void makeAfterEnding() {
        MainframeDesk x = deskOf(200, 6);
        x.fails(6, 1);
        for (int number = 1; number <= 200; number++) {
            due("call", x.call(6, number, 0), -11);
        }
        due("make", x.make(6), -1);
        due("numbers", x.numbers(6), 0);
    }

    private static void makeNeverUsesANumberTwice() {
        MainframeDesk x = new MainframeDesk();
        x.fails(4, 1);
        for (int number = 1; number <= 100; number++) {
            due("make", x.make(4), number);
            if (number % 2 == 0) {
                due("drop", x.drop(number), true);
            } else {
                due("call", x.call(4, number, 0), -11);
            }
        }
        due("an old one stays away", x.call(4, 1, 0), -5);
    }

    // Promise 6: refusals

    private static void refusals() {
        run("6 -2 no such call", BoundaryTest::refuseNoCall);
        run("6 -2 no such thing", BoundaryTest::refuseNoThing);
        run("6 -2 a thing of another kind", BoundaryTest::refuseOtherKind);
        run("6 -4 an a below 0", BoundaryTest::refuseSmallA);
        run("6 -4 an a above 1000000", BoundaryTest::refuseLargeA);
        run("6 an a at both ends", BoundaryTest::takeEdgesOfA);
        run("6 -5 a thing that was dropped", BoundaryTest::refuseDropped);
        run("6 -5 a thing that was ended", BoundaryTest::refuseEnded);
        run("6 -5 a row that has less than is needed", BoundaryTest::refuseRowInNeed);
        run("6 -2 before -4", BoundaryTest::refuseNoSuchBeforeA);
        run("6 -2 before -5", BoundaryTest::refuseNoSuchBeforeNotThere);
        run("6 -4 before -5", BoundaryTest::refuseABeforeNotThere);
        run("6 a refusal before a failure", BoundaryTest::refuseBeforeFailing);
        run("6 a refusal changes nothing but their count", BoundaryTest::refuseChangingNothing);
    }

    private static void refuseNoCall() {
        MainframeDesk x = deskOfAllKinds();
        for (int call : outside(32)) {
            for (int number = 1; number <= 8; number++) {
                due("call " + call + " on " + number, x.call(call, number, 0), -2);
            }
        }
    }

    private static void refuseNoThing() {
        MainframeDesk x = deskOf(3, 0);
        for (int number : NOT_NUMBERS_OF_THREE) {
            due("thing " + number, x.call(0, number, 0), -2);
        }
        due("thing 1", x.call(0, 1, 0), 0);
        due("thing 3", x.call(0, 3, 0), 0);
    }

    private static void refuseOtherKind() {
        for (int call = 0; call < 32; call++) {
            MainframeDesk x = deskOfAllKinds();
            x.collect(call % 4, 1);
            for (int kind = 0; kind < 8; kind++) {
                long own = call < 8 ? 9 : 10;
                long want = kind == call % 8 ? own : -2;
                due("call " + call + " on kind " + kind, x.call(call, kind + 1, 9), want);
            }
        }
    }

    private static void refuseSmallA() {
        MainframeDesk x = deskOfAllKinds();
        long[] small = {-1, -2, -1000000, Integer.MIN_VALUE, MIN, MIN + 1, -(1L << 32), 5 - (1L << 32)};
        for (long a : small) {
            due("a = " + a, x.call(0, 1, a), -4);
        }
    }

    private static void refuseLargeA() {
        MainframeDesk x = deskOfAllKinds();
        long[] large = {1000001, 1000002, Integer.MAX_VALUE, MAX, MAX - 1, 1L << 32, (1L << 32) + 5};
        for (long a : large) {
            due("a = " + a, x.call(0, 1, a), -4);
        }
    }

    private static void takeEdgesOfA() {
        long[] edges = {0, 1, 999999, 1000000};
        for (int call = 0; call < 24; call++) {
            for (long a : edges) {
                MainframeDesk x = deskOfAllKinds();
                due("call " + call + ", a = " + a, x.call(call, thingFor(call), a), a);
            }
        }
    }

    private static void refuseDropped() {
        for (int call = 0; call < 32; call++) {
            MainframeDesk x = deskOfAllKinds();
            x.collect(call % 4, 1);
            x.drop(thingFor(call));
            due("call " + call, x.call(call, thingFor(call), 0), -5);
            due("the row is as it was", x.collect(call % 4, 1), 2);
        }
    }

    private static void refuseEnded() {
        for (int call = 0; call < 32; call++) {
            MainframeDesk x = deskOfAllKinds();
            x.fails(call % 8, 2);
            due("the failure", x.call(call % 8, thingFor(call), 0), -12);
            x.fails(call % 8, 0);
            x.collect(call % 4, 1);
            due("call " + call, x.call(call, thingFor(call), 0), -5);
            due("the row is as it was", x.collect(call % 4, 1), 2);
        }
    }

    private static void refuseRowInNeed() {
        for (int call = 24; call < 32; call++) {
            MainframeDesk x = deskOfAllKinds();
            for (int other = 1; other < 4; other++) {
                x.collect((call + other) % 4, 1);
            }
            due("call " + call + " without", x.call(call, thingFor(call), 0), -5);
            x.collect(call % 4, 6);
            due("call " + call + " with one", x.call(call, thingFor(call), 0), 6);
            due("call " + call + " without again", x.call(call, thingFor(call), 0), -5);
        }
    }

    private static void refuseNoSuchBeforeA() {
        MainframeDesk x = deskOf(1, 0);
        due("no such call, a below", x.call(32, 1, -1), -2);
        due("no such call, a above", x.call(-1, 1, 1000001), -2);
        due("no such thing, a below", x.call(0, 2, -1), -2);
        due("no such thing, a above", x.call(0, 0, 1000001), -2);
        due("another kind, a below", x.call(1, 1, -1), -2);
        due("another kind, a above", x.call(1, 1, 1000001), -2);
    }

    private static void refuseNoSuchBeforeNotThere() {
        MainframeDesk x = deskOf(2, 0);
        x.drop(1);
        x.fails(0, 1);
        x.call(0, 2, 0);
        due("no such call on a dropped thing", x.call(32, 1, 0), -2);
        due("no such call on an ended thing", x.call(32, 2, 0), -2);
        due("another kind, dropped", x.call(1, 1, 0), -2);
        due("another kind, ended", x.call(1, 2, 0), -2);
        due("no such thing, an empty row", x.call(24, 3, 0), -2);
        due("another kind, an empty row", x.call(25, 1, 0), -2);
    }

    private static void refuseABeforeNotThere() {
        MainframeDesk x = deskOf(3, 0);
        x.drop(1);
        x.fails(0, 1);
        x.call(0, 2, 0);
        due("a below, dropped", x.call(0, 1, -1), -4);
        due("a above, ended", x.call(0, 2, 1000001), -4);
        due("a below, an empty row", x.call(24, 3, -1), -4);
        due("a above, an empty row", x.call(24, 3, 1000001), -4);
        due("a below, dropped and an empty row", x.call(24, 1, -1), -4);
        due("a at its end, dropped and an empty row", x.call(24, 1, 1000000), -5);
    }

    private static void refuseBeforeFailing() {
        MainframeDesk x = deskOfAllKinds();
        x.make(0);
        x.drop(9);
        x.fails(0, 5);
        x.fails(24, 5);
        due("another kind", x.call(0, 2, 0), -2);
        due("a", x.call(0, 1, -1), -4);
        due("dropped", x.call(0, 9, 0), -5);
        due("an empty row", x.call(24, 1, 0), -5);
        due("nothing failed", x.told(3), 0);
        due("the thing is there", x.numbers(0), 1);
    }

    private static void refuseChangingNothing() {
        MainframeDesk x = deskOfAllKinds();
        MainframeDesk twin = deskOfAllKinds();
        for (int row = 0; row < 3; row++) {
            x.collect(row, 7);
            twin.collect(row, 7);
        }
        x.call(32, 1, 0);
        x.call(8, 2, 0);
        x.call(8, 1, -1);
        x.call(31, 8, 0);
        due("refusals", x.told(4), 4);
        // The twin is refused as often, by calls that can't reach a row or a thing.
        for (int time = 0; time < 4; time++) {
            twin.call(0, 0, 0);
        }
        same("the desk", seen(x), seen(twin));
        due("row 0 has its number", x.collect(0, 1), 2);
        due("row 3 is empty", x.collect(3, 1), 1);
    }

    // Promise 6: rows and sums

    private static void rowsOfCalls() {
        run("6 call 7 takes no row, call 8 does", BoundaryTest::firstCallWithRow);
        run("6 call 23 needs nothing, call 24 does", BoundaryTest::firstCallInNeed);
        run("6 each call takes its own row alone", BoundaryTest::callsTakeTheirRow);
        run("6 a row is empty after it was taken", BoundaryTest::takenRowIsEmpty);
        run("6 a row that is full is taken whole", BoundaryTest::fullRowIsTaken);
        run("6 an empty row is taken too", BoundaryTest::emptyRowIsTaken);
        run("6 one number of 0 is enough", BoundaryTest::zeroMeetsTheNeed);
        run("6 numbers that cancel out are enough", BoundaryTest::cancellingMeetsTheNeed);
    }

    private static void firstCallWithRow() {
        MainframeDesk x = deskOfAllKinds();
        x.collect(3, 5);
        x.collect(0, 5);
        due("call 7", x.call(7, 8, 1), 1);
        due("row 3 is as it was", x.collect(3, 5), 2);
        due("call 8", x.call(8, 1, 1), 6);
        due("row 0 was taken", x.collect(0, 5), 1);
    }

    private static void firstCallInNeed() {
        MainframeDesk x = deskOfAllKinds();
        due("call 23", x.call(23, 8, 1), 1);
        due("call 24", x.call(24, 1, 1), -5);
    }

    private static void callsTakeTheirRow() {
        for (int call = 0; call < 32; call++) {
            MainframeDesk x = deskOfAllKinds();
            for (int row = 0; row < 4; row++) {
                x.collect(row, 1L << (8 * row));
            }
            long taken = call < 8 ? 0 : 1L << (8 * (call % 4));
            due("call " + call, x.call(call, thingFor(call), 0), taken);
            for (int row = 0; row < 4; row++) {
                boolean left = call < 8 || row != call % 4;
                due("row " + row + " after call " + call, x.collect(row, 0), left ? 2 : 1);
            }
        }
    }

    private static void takenRowIsEmpty() {
        for (int call = 8; call < 32; call++) {
            MainframeDesk x = deskOfAllKinds();
            int needing = 24 + call % 8;
            x.collect(call % 4, 30);
            x.collect(call % 4, 4);
            due("call " + call, x.call(call, thingFor(call), 0), 34);
            due("the need of " + needing, x.call(needing, thingFor(call), 0), -5);
            due("collected anew", x.collect(call % 4, 2), 1);
            long counted = call % 8 == 3 ? 1 : 0;
            due("nothing of before", x.call(needing, thingFor(call), 0), 2 + counted);
        }
    }

    private static void fullRowIsTaken() {
        for (int call = 8; call < 32; call++) {
            MainframeDesk x = deskOfAllKinds();
            for (int i = 0; i < 50; i++) {
                x.collect(call % 4, 1L << i);
            }
            due("call " + call, x.call(call, thingFor(call), 0), (1L << 50) - 1);
            due("collected anew", x.collect(call % 4, 2), 1);
        }
    }

    private static void emptyRowIsTaken() {
        for (int call = 8; call < 24; call++) {
            MainframeDesk x = deskOfAllKinds();
            x.answer(call, 11);
            due("call " + call, x.call(call, thingFor(call), 2), 13);
            due("the row", x.collect(call % 4, 2), 1);
        }
    }

    private static void zeroMeetsTheNeed() {
        for (int call = 24; call < 32; call++) {
            MainframeDesk x = deskOfAllKinds();
            x.collect(call % 4, 0);
            due("call " + call, x.call(call, thingFor(call), 8), 8);
        }
    }

    private static void cancellingMeetsTheNeed() {
        MainframeDesk x = deskOfAllKinds();
        x.collect(2, 70);
        x.collect(2, -70);
        due("call 26", x.call(26, 3, 8), 8);
        due("call 26 again", x.call(26, 3, 8), -5);
    }

    private static void sums() {
        run("6 answer + a goes round", BoundaryTest::answerAndAGoRound);
        run("6 the numbers taken go round upwards", BoundaryTest::rowGoesRoundUpwards);
        run("6 the numbers taken go round downwards", BoundaryTest::rowGoesRoundDownwards);
        run("6 answer + numbers taken goes round", BoundaryTest::answerAndRowGoRound);
        run("6 a full row goes round many times", BoundaryTest::fullRowGoesRound);
        run("6 the count of kind 3 goes round", BoundaryTest::countGoesRound);
        run("6 an answer like a refusal or a failure", BoundaryTest::answerLikeAnother);
    }

    private static void answerAndAGoRound() {
        MainframeDesk x = deskOfAllKinds();
        x.answer(0, MAX);
        due("MAX + 0", x.call(0, 1, 0), MAX);
        due("MAX + 1", x.call(0, 1, 1), MIN);
        due("MAX + 1000000", x.call(0, 1, 1000000), MIN + 999999);
        x.answer(0, -1000000);
        due("up to 0", x.call(0, 1, 1000000), 0);
    }

    private static void rowGoesRoundUpwards() {
        MainframeDesk x = deskOfAllKinds();
        x.collect(1, MAX);
        x.collect(1, 1);
        due("MAX + 1", x.call(9, 2, 0), MIN);
        x.collect(1, MAX);
        x.collect(1, MAX);
        due("MAX + MAX", x.call(9, 2, 0), -2);
    }

    private static void rowGoesRoundDownwards() {
        MainframeDesk x = deskOfAllKinds();
        x.collect(1, MIN);
        x.collect(1, -1);
        due("MIN - 1", x.call(9, 2, 0), MAX);
        x.collect(1, MIN);
        x.collect(1, MIN);
        due("MIN + MIN", x.call(9, 2, 0), 0);
    }

    private static void answerAndRowGoRound() {
        MainframeDesk x = deskOfAllKinds();
        x.answer(9, MAX);
        x.collect(1, MAX);
        due("MAX + 3 + MAX", x.call(9, 2, 3), 1);
        x.answer(9, MIN);
        x.collect(1, MIN);
        due("MIN + 3 + MIN", x.call(9, 2, 3), 3);
    }

    private static void fullRowGoesRound() {
        MainframeDesk x = deskOfAllKinds();
        fill(x, 1, MAX);
        due("50 times MAX", x.call(9, 2, 0), -50);
        fill(x, 1, MIN);
        due("50 times MIN", x.call(9, 2, 0), 0);
    }

    private static void countGoesRound() {
        MainframeDesk x = deskOfAllKinds();
        x.answer(3, MAX);
        due("the first", x.call(3, 4, 0), MAX);
        due("the second", x.call(3, 4, 0), MIN);
        due("the third", x.call(3, 4, 0), MIN + 1);
    }

    private static void answerLikeAnother() {
        MainframeDesk x = deskOfAllKinds();
        long[] likes = {-1, -2, -4, -5, -10, -11, -12, -13, -14, -15, -16};
        for (long like : likes) {
            x.answer(0, like);
            due("answer " + like, x.call(0, 1, 0), like);
        }
        due("failures", x.told(3), 0);
        due("refusals", x.told(4), 0);
        due("answers", x.told(5), likes.length);
        due("the thing is there", x.numbers(0), 1);
    }

    // Promise 6: failures

    private static void failing() {
        run("6 failure 1 divides by zero", () -> oneFailure(1));
        run("6 failure 2 looks beyond a row", () -> oneFailure(2));
        run("6 failure 3 makes a row of less than no places", () -> oneFailure(3));
        run("6 failure 4 isn't in that state", () -> oneFailure(4));
        run("6 failure 5 is given what it can't take", () -> oneFailure(5));
        run("6 failure 6 does what it can't do", () -> oneFailure(6));
        run("6 a failure ends that thing alone", BoundaryTest::failureEndsOneThing);
        run("6 what a failed call took is gone", BoundaryTest::failureTakesItsRow);
        run("6 a failed call without a row takes none", BoundaryTest::failureWithoutRow);
        run("6 a failure hides answer, a and numbers taken", BoundaryTest::failureHidesTheSum);
        run("6 a failure belongs to one call", BoundaryTest::failureOfOneCall);
        run("6 a failed call fails for the next thing too", BoundaryTest::failureStays);
    }

    private static void oneFailure(int failure) {
        for (int call = 0; call < 32; call++) {
            MainframeDesk x = deskOfAllKinds();
            int number = thingFor(call);
            x.fails(call, failure);
            x.collect(call % 4, 1);
            due("call " + call, x.call(call, number, 0), -10 - failure);
            due("the failure", x.told(0), failure);
            due("its call", x.told(1), call);
            due("its thing", x.told(2), number);
            due("failures", x.told(3), 1);
            due("refusals", x.told(4), 0);
            due("answers", x.told(5), 0);
            due("it is not counted", x.numbers(call % 8), 0);
            due("it is not dropped after", x.drop(number), false);
            x.collect(call % 4, 1);
            due("call " + call + " again", x.call(call, number, 0), -5);
            x.fails(call, 0);
            due("it stays ended", x.call(call, number, 0), -5);
        }
    }

    private static void failureEndsOneThing() {
        MainframeDesk x = deskOfAllKinds();
        x.make(5);
        x.make(5);
        x.fails(5, 1);
        due("the failure", x.call(5, 9, 0), -11);
        x.fails(5, 0);
        due("the one before", x.call(5, 6, 4), 4);
        due("the one behind", x.call(5, 10, 4), 4);
        for (int kind = 0; kind < 8; kind++) {
            due("numbers " + kind, x.numbers(kind), kind == 5 ? 2 : 1);
        }
    }

    private static void failureTakesItsRow() {
        for (int call = 8; call < 32; call++) {
            MainframeDesk x = deskOfAllKinds();
            for (int row = 0; row < 4; row++) {
                x.collect(row, 9);
            }
            x.fails(call, 3);
            due("call " + call, x.call(call, thingFor(call), 0), -13);
            x.make((call + 4) % 8);
            int needing = 24 + (call + 4) % 8;
            due("the row is empty", x.call(needing, 9, 0), -5);
            for (int row = 0; row < 4; row++) {
                due("row " + row + " after call " + call, x.collect(row, 1), row == call % 4 ? 1 : 2);
            }
            due("nothing of before", x.call(needing, 9, 0), 1);
        }
    }

    private static void failureWithoutRow() {
        for (int call = 0; call < 8; call++) {
            MainframeDesk x = deskOfAllKinds();
            for (int row = 0; row < 4; row++) {
                x.collect(row, 9);
            }
            x.fails(call, 3);
            due("call " + call, x.call(call, thingFor(call), 0), -13);
            for (int row = 0; row < 4; row++) {
                due("row " + row + " after call " + call, x.collect(row, 1), 2);
            }
        }
    }

    private static void failureHidesTheSum() {
        MainframeDesk x = deskOfAllKinds();
        x.call(3, 4, 0);
        x.answer(11, 1000);
        x.collect(3, 70);
        x.fails(11, 2);
        due("call 11", x.call(11, 4, 5), -12);
    }

    private static void failureOfOneCall() {
        MainframeDesk x = deskOfAllKinds();
        x.fails(9, 2);
        due("call 1", x.call(1, 2, 5), 5);
        due("call 17", x.call(17, 2, 5), 5);
        due("call 8", x.call(8, 1, 5), 5);
        due("call 10", x.call(10, 3, 5), 5);
        due("call 9", x.call(9, 2, 5), -12);
    }

    private static void failureStays() {
        MainframeDesk x = deskOf(3, 2);
        x.fails(2, 6);
        for (int number = 1; number <= 3; number++) {
            due("thing " + number, x.call(2, number, 0), -16);
        }
        due("failures", x.told(3), 3);
        due("what it was", x.fails(2, 0), 6);
    }

    private static void countsOfKindThree() {
        run("6 kind 3 adds what it answered before", BoundaryTest::countStartsAtNone);
        run("6 no other kind adds it", BoundaryTest::otherKindsAddNone);
        run("6 every call of that thing counts", BoundaryTest::everyCallCounts);
        run("6 each thing has a count of its own", BoundaryTest::countsAreApart);
        run("6 refused calls do not count", BoundaryTest::refusedDoNotCount);
        run("6 calls of again do not count", BoundaryTest::againDoesNotCount);
    }

    private static void countStartsAtNone() {
        MainframeDesk x = deskOf(1, 3);
        for (int before = 0; before < 100; before++) {
            due("call", x.call(3, 1, 10), 10 + before);
        }
    }

    private static void otherKindsAddNone() {
        MainframeDesk x = deskOfAllKinds();
        for (int kind = 0; kind < 8; kind++) {
            due("the first of kind " + kind, x.call(kind, kind + 1, 0), 0);
            due("the second of kind " + kind, x.call(kind, kind + 1, 0), kind == 3 ? 1 : 0);
        }
    }

    private static void everyCallCounts() {
        MainframeDesk x = deskOf(1, 3);
        due("call 3", x.call(3, 1, 0), 0);
        due("call 11", x.call(11, 1, 0), 1);
        due("call 19", x.call(19, 1, 0), 2);
        x.collect(3, 100);
        due("call 27", x.call(27, 1, 0), 103);
        due("call 3 again", x.call(3, 1, 0), 4);
    }

    private static void countsAreApart() {
        MainframeDesk x = deskOf(2, 3);
        x.call(3, 1, 0);
        x.call(3, 1, 0);
        due("the other thing", x.call(3, 2, 0), 0);
        due("the first thing", x.call(3, 1, 0), 2);
        due("a thing made later", x.call(3, x.make(3), 0), 0);
    }

    private static void refusedDoNotCount() {
        MainframeDesk x = deskOf(1, 3);
        x.call(32, 1, 0);
        x.call(2, 1, 0);
        x.call(3, 1, -1);
        x.call(3, 1, 1000001);
        x.call(27, 1, 0);
        due("call", x.call(3, 1, 0), 0);
    }

    private static void againDoesNotCount() {
        MainframeDesk x = deskOf(1, 3);
        due("again", x.again(3, 1, 0), 0);
        due("again once more", x.again(3, 1, 0), 0);
        due("call", x.call(3, 1, 0), 0);
        due("again after", x.again(3, 1, 0), 1);
    }

    // Promise 7

    private static void telling() {
        run("7 nothing told yet, though calls were made", BoundaryTest::toldWithoutFailure);
        run("7 what = 0 the latest failure", BoundaryTest::toldLatestFailure);
        run("7 what = 1 its call", BoundaryTest::toldLatestCall);
        run("7 what = 2 its thing", BoundaryTest::toldLatestThing);
        run("7 what = 3 how many failures", BoundaryTest::toldFailures);
        run("7 what = 4 how many refusals", BoundaryTest::toldRefusals);
        run("7 what = 5 how many calls that answered", BoundaryTest::toldAnswers);
        run("7 other whats", BoundaryTest::toldOthers);
        run("7 a failure is told as it was", BoundaryTest::toldStays);
        run("7 only a call is counted", BoundaryTest::toldOnlyOfCalls);
    }

    private static void toldWithoutFailure() {
        MainframeDesk x = deskOfAllKinds();
        x.call(5, 6, 1);
        x.call(5, 7, 1);
        due("failure", x.told(0), 0);
        due("its call", x.told(1), 0);
        due("its thing", x.told(2), 0);
        due("failures", x.told(3), 0);
    }

    private static void toldLatestFailure() {
        MainframeDesk x = deskOf(6, 1);
        int[] order = {6, 1, 4, 3, 5, 2};
        for (int i = 0; i < order.length; i++) {
            x.fails(1, order[i]);
            x.call(1, i + 1, 0);
            due("after " + order[i], x.told(0), order[i]);
        }
    }

    private static void toldLatestCall() {
        MainframeDesk x = deskOfAllKinds();
        int[] order = {31, 0, 10, 5};
        x.collect(3, 1);
        for (int call : order) {
            x.fails(call, 1);
            x.call(call, thingFor(call), 0);
            due("after " + call, x.told(1), call);
        }
    }

    private static void toldLatestThing() {
        MainframeDesk x = deskOf(200, 1);
        x.fails(1, 1);
        int[] order = {200, 1, 100, 2};
        for (int number : order) {
            x.call(1, number, 0);
            due("after " + number, x.told(2), number);
        }
    }

    private static void toldFailures() {
        MainframeDesk x = deskOf(10, 1);
        x.fails(1, 2);
        for (int number = 1; number <= 10; number++) {
            x.call(1, number, 0);
            due("failures", x.told(3), number);
            x.call(1, number, 0);
            due("an ended thing fails no more", x.told(3), number);
        }
        due("refusals", x.told(4), 10);
        due("answers", x.told(5), 0);
    }

    private static void toldRefusals() {
        MainframeDesk x = deskOf(2, 0);
        x.drop(2);
        x.call(-1, 1, 0);
        due("no such call", x.told(4), 1);
        x.call(0, 3, 0);
        due("no such thing", x.told(4), 2);
        x.call(1, 1, 0);
        due("another kind", x.told(4), 3);
        x.call(0, 1, -1);
        due("a below", x.told(4), 4);
        x.call(0, 1, 1000001);
        due("a above", x.told(4), 5);
        x.call(0, 2, 0);
        due("not there", x.told(4), 6);
        x.call(24, 1, 0);
        due("the row", x.told(4), 7);
        due("failures", x.told(3), 0);
        due("answers", x.told(5), 0);
    }

    private static void toldAnswers() {
        MainframeDesk x = deskOfAllKinds();
        for (int call = 0; call < 32; call++) {
            x.collect(call % 4, 1);
            x.call(call, thingFor(call), 0);
            due("answers", x.told(5), call + 1);
        }
        due("failures", x.told(3), 0);
        due("refusals", x.told(4), 0);
    }

    private static void toldOthers() {
        MainframeDesk x = deskOf(1, 1);
        for (int what : outside(6)) {
            due("told " + what + " of a new desk", x.told(what), -1);
        }
        x.fails(1, 2);
        x.call(1, 1, 0);
        for (int what : outside(6)) {
            due("told " + what, x.told(what), -1);
        }
        due("told 7", x.told(7), -1);
    }

    private static void toldStays() {
        MainframeDesk x = deskOf(3, 1);
        x.fails(9, 4);
        x.call(9, 2, 0);
        x.fails(9, 0);
        x.call(9, 2, 0);
        x.call(9, 1, 0);
        x.drop(1);
        x.make(1);
        due("failure", x.told(0), 4);
        due("its call", x.told(1), 9);
        due("its thing", x.told(2), 2);
        due("failures", x.told(3), 1);
        due("refusals", x.told(4), 1);
        due("answers", x.told(5), 1);
    }

    private static void toldOnlyOfCalls() {
        MainframeDesk x = deskOf(1, 1);
        x.collect(4, 1);
        x.answer(32, 1);
        x.fails(32, 1);
        x.make(8);
        x.told(6);
        x.drop(2);
        x.numbers(8);
        x.again(32, 1, 0);
        x.again(1, 1, 0);
        x.fails(1, 1);
        x.again(1, 1, 0);
        for (int what = 0; what < 6; what++) {
            due("told " + what, x.told(what), 0);
        }
    }

    // Promise 8

    private static void dropping() {
        run("8 no such thing", BoundaryTest::dropNoThing);
        run("8 the first and the last thing", BoundaryTest::dropEdgeThings);
        run("8 a thing that was dropped", BoundaryTest::dropTwice);
        run("8 a thing that was ended", BoundaryTest::dropEnded);
        run("8 a thing that is made later", BoundaryTest::dropBeforeMaking);
        run("8 the others stay", BoundaryTest::dropOneAlone);
    }

    private static void dropNoThing() {
        MainframeDesk x = deskOf(3, 1);
        for (int number : NOT_NUMBERS_OF_THREE) {
            due("thing " + number, x.drop(number), false);
        }
        due("numbers", x.numbers(1), 3);
    }

    private static void dropEdgeThings() {
        MainframeDesk x = deskOf(200, 1);
        due("thing 1", x.drop(1), true);
        due("thing 200", x.drop(200), true);
        due("thing 201", x.drop(201), false);
        due("call 1", x.call(1, 1, 0), -5);
        due("call 200", x.call(1, 200, 0), -5);
        due("numbers", x.numbers(1), 198);
    }

    private static void dropTwice() {
        MainframeDesk x = deskOf(2, 1);
        due("once", x.drop(1), true);
        due("twice", x.drop(1), false);
        due("three times", x.drop(1), false);
        due("numbers", x.numbers(1), 1);
        due("it stays away", x.call(1, 1, 0), -5);
    }

    private static void dropEnded() {
        MainframeDesk x = deskOf(2, 1);
        x.fails(1, 6);
        x.call(1, 1, 0);
        due("ended", x.drop(1), false);
        due("numbers", x.numbers(1), 1);
        due("what was told stays", x.told(2), 1);
    }

    private static void dropBeforeMaking() {
        MainframeDesk x = deskOf(1, 1);
        due("before", x.drop(2), false);
        due("make", x.make(1), 2);
        due("it is there", x.call(1, 2, 3), 3);
        due("after", x.drop(2), true);
    }

    private static void dropOneAlone() {
        MainframeDesk x = deskOf(3, 3);
        x.call(3, 1, 0);
        x.call(3, 3, 0);
        x.collect(3, 20);
        x.drop(2);
        due("the one before", x.call(3, 1, 0), 1);
        due("the one behind", x.call(11, 3, 0), 21);
        due("numbers", x.numbers(3), 2);
    }

    // Promise 9

    private static void counting() {
        run("9 no such kind", BoundaryTest::numbersOfNoKind);
        run("9 no thing of a kind", BoundaryTest::numbersOfNone);
        run("9 200 things of one kind", BoundaryTest::numbersOfAll);
        run("9 things dropped", BoundaryTest::numbersWithoutDropped);
        run("9 things ended", BoundaryTest::numbersWithoutEnded);
        run("9 all things gone", BoundaryTest::numbersWhenAllAreGone);
    }

    private static void numbersOfNoKind() {
        MainframeDesk x = new MainframeDesk();
        for (int kind : outside(8)) {
            due("of a new desk, kind " + kind, x.numbers(kind), -1);
        }
        MainframeDesk y = deskOfAllKinds();
        for (int kind : outside(8)) {
            due("kind " + kind, y.numbers(kind), -1);
        }
    }

    private static void numbersOfNone() {
        for (int made = 0; made < 8; made++) {
            MainframeDesk x = deskOf(2, made);
            for (int kind = 0; kind < 8; kind++) {
                due("kind " + kind + " beside " + made, x.numbers(kind), kind == made ? 2 : 0);
            }
        }
    }

    private static void numbersOfAll() {
        MainframeDesk x = deskOf(200, 7);
        due("kind 7", x.numbers(7), 200);
        due("kind 0", x.numbers(0), 0);
        x.make(7);
        due("the 201st is not counted", x.numbers(7), 200);
    }

    private static void numbersWithoutDropped() {
        MainframeDesk x = deskOfAllKinds();
        for (int kind = 0; kind < 8; kind++) {
            x.drop(kind + 1);
            for (int other = 0; other < 8; other++) {
                due("kind " + other, x.numbers(other), other > kind ? 1 : 0);
            }
        }
    }

    private static void numbersWithoutEnded() {
        MainframeDesk x = deskOfAllKinds();
        for (int kind = 0; kind < 8; kind++) {
            x.fails(kind, 1);
            x.call(kind, kind + 1, 0);
            for (int other = 0; other < 8; other++) {
                due("kind " + other, x.numbers(other), other > kind ? 1 : 0);
            }
        }
    }

    private static void numbersWhenAllAreGone() {
        MainframeDesk x = deskOf(20, 4);
        x.fails(4, 2);
        for (int number = 1; number <= 20; number++) {
            if (number % 2 == 0) {
                x.drop(number);
            } else {
                x.call(4, number, 0);
            }
            due("left", x.numbers(4), 20 - number);
        }
        x.make(4);
        due("a new one", x.numbers(4), 1);
    }

    // Promise 10

    private static void secondDesks() {
        run("10 each refusal", BoundaryTest::againRefusals);
        run("10 refusals in their order", BoundaryTest::againRefusalsInOrder);
        run("10 an a at and beyond both ends", BoundaryTest::againEdgesOfA);
        run("10 each failure", BoundaryTest::againFailures);
        run("10 sums going round", BoundaryTest::againGoesRound);
        run("10 a row that has less than is needed", BoundaryTest::againRowInNeed);
        run("10 nothing changes: an answer", BoundaryTest::againAnswersChangingNothing);
        run("10 nothing changes: a failure", BoundaryTest::againFailsChangingNothing);
        run("10 nothing changes: a refusal", BoundaryTest::againRefusesChangingNothing);
        run("10 what a second desk with the same calls answers", BoundaryTest::againIsWhatASecondDeskAnswers);
    }

    private static void againRefusals() {
        MainframeDesk x = deskOfAllKinds();
        for (int call : outside(32)) {
            due("no such call " + call, x.again(call, 1, 0), -2);
        }
        int[] numbers = {0, -1, 9, 200, 201, Integer.MIN_VALUE, Integer.MAX_VALUE};
        for (int number : numbers) {
            due("no such thing " + number, x.again(0, number, 0), -2);
        }
        due("another kind", x.again(0, 2, 0), -2);
        x.drop(1);
        due("dropped", x.again(0, 1, 0), -5);
        x.fails(1, 1);
        x.call(1, 2, 0);
        x.fails(1, 0);
        due("ended", x.again(1, 2, 0), -5);
    }

    private static void againRefusalsInOrder() {
        MainframeDesk x = deskOf(2, 0);
        x.drop(1);
        x.fails(24, 3);
        due("no such call before a", x.again(32, 1, -1), -2);
        due("another kind before a", x.again(1, 1, 1000001), -2);
        due("another kind before dropped", x.again(1, 1, 0), -2);
        due("a before dropped", x.again(0, 1, -1), -4);
        due("a before the row", x.again(24, 2, 1000001), -4);
        due("the row before the failure", x.again(24, 2, 0), -5);
    }

    private static void againEdgesOfA() {
        MainframeDesk x = deskOfAllKinds();
        long[] good = {0, 1, 999999, 1000000};
        for (long a : good) {
            due("a = " + a, x.again(0, 1, a), a);
        }
        long[] bad = {-1, 1000001, MIN, MAX, 1L << 32, -(1L << 32)};
        for (long a : bad) {
            due("a = " + a, x.again(0, 1, a), -4);
        }
    }

    private static void againFailures() {
        MainframeDesk x = deskOfAllKinds();
        for (int failure = 1; failure <= 6; failure++) {
            x.fails(12, failure);
            due("failure " + failure, x.again(12, 5, 0), -10 - failure);
        }
        x.fails(12, 0);
        due("no failure", x.again(12, 5, 7), 7);
    }

    private static void againGoesRound() {
        MainframeDesk x = deskOf(1, 3);
        x.answer(11, MAX);
        x.collect(3, MAX);
        x.call(3, 1, 0);
        due("MAX + 1 + MAX and one call", x.again(11, 1, 1), 0);
        x.answer(11, MIN);
        due("MIN + 0 + MAX and one call", x.again(11, 1, 0), 0);
    }

    private static void againRowInNeed() {
        for (int call = 24; call < 32; call++) {
            MainframeDesk x = deskOfAllKinds();
            due("call " + call + " without", x.again(call, thingFor(call), 0), -5);
            x.collect(call % 4, 6);
            due("call " + call + " with one", x.again(call, thingFor(call), 0), 6);
            due("call " + call + " has it still", x.again(call, thingFor(call), 0), 6);
        }
    }

    private static void againAnswersChangingNothing() {
        for (int call = 0; call < 32; call++) {
            MainframeDesk x = deskOfAllKinds();
            x.collect(call % 4, 6);
            String before = seen(x);
            due("call " + call, x.again(call, thingFor(call), 5), call < 8 ? 5 : 11);
            same("the desk after " + call, seen(x), before);
            due("the row after " + call, x.collect(call % 4, 6), 2);
        }
    }

    private static void againFailsChangingNothing() {
        for (int call = 0; call < 32; call++) {
            MainframeDesk x = deskOfAllKinds();
            x.collect(call % 4, 6);
            x.fails(call, 1 + call % 6);
            String before = seen(x);
            due("call " + call, x.again(call, thingFor(call), 5), -11 - call % 6);
            same("the desk after " + call, seen(x), before);
            due("the row after " + call, x.collect(call % 4, 6), 2);
            due("the thing after " + call, x.drop(thingFor(call)), true);
        }
    }

    private static void againRefusesChangingNothing() {
        MainframeDesk x = deskOfAllKinds();
        String before = seen(x);
        x.again(32, 1, 0);
        x.again(0, 9, 0);
        x.again(0, 2, 0);
        x.again(0, 1, -1);
        x.again(24, 1, 0);
        same("the desk", seen(x), before);
        due("refusals", x.told(4), 0);
    }

    /** The calls that bring two desks to the same state, with a thing of each sort among them. */
    private static MainframeDesk deskWithAHistory() {
        MainframeDesk x = deskOfAllKinds();
        for (int call = 0; call < 32; call++) {
            x.answer(call, call % 5 == 0 ? MAX - call : 100L * call);
            x.fails(call, call % 3 == 0 ? call % 7 : 0);
        }
        x.make(3);
        x.call(19, 9, 2);
        x.drop(2);
        x.call(6, 7, 1);
        x.collect(0, MAX);
        x.collect(1, 17);
        x.collect(1, -4);
        x.collect(3, 1);
        return x;
    }

    private static void againIsWhatASecondDeskAnswers() {
        long[] as = {-1, 0, 250, 1000000, 1000001};
        MainframeDesk[] desks = new MainframeDesk[as.length];
        for (int i = 0; i < as.length; i++) {
            desks[i] = deskWithAHistory();
        }
        for (int call = -1; call <= 32; call++) {
            for (int number = 0; number <= 10; number++) {
                for (int i = 0; i < as.length; i++) {
                    long second = deskWithAHistory().call(call, number, as[i]);
                    String name = "again(" + call + ", " + number + ", " + as[i] + ")";
                    due(name, desks[i].again(call, number, as[i]), second);
                }
            }
        }
    }
}
