/** Each promise of the document on ordinary inputs, on the edges that it names and on wrong inputs. */
public final class PromiseTest {
    private static final int[] NOT_INDEXES = {-1, Integer.MIN_VALUE, Integer.MAX_VALUE};

    private static int wrong = 0;

    private static void due(String what, long got, long want) {
        if (got != want) {
            wrong++;
            System.out.println(what + " answered " + got + ", due is " + want);
        }
    }

    private static void due(String what, boolean got, boolean want) {
        due(what, got ? 1 : 0, want ? 1 : 0);
    }

    public static void main(String[] args) {
        newObject();
        collect();
        collectedRowsAreApart();
        answer();
        fails();
        make();
        callRefusals();
        callRefusalsInOrder();
        callRows();
        callNeeds();
        callSums();
        callCountsForKindThree();
        callFailures();
        callFailureTakesItsRow();
        told();
        toldCountsByWhatHappened();
        drop();
        numbers();
        again();
        againChangesNothing();
        desksAreApart();
        System.out.println(wrong == 0 ? "all answers are as due" : wrong + " answers are not as due");
        if (wrong != 0) {
            System.exit(1);
        }
    }

    // Promise 1

    private static void newObject() {
        MainframeDesk x = new MainframeDesk();
        due("P1 NONE", MainframeDesk.NONE, -1);
        for (int kind = 0; kind < 8; kind++) {
            due("P1 numbers " + kind, x.numbers(kind), 0);
        }
        for (int what = 0; what < 6; what++) {
            due("P1 told " + what, x.told(what), 0);
        }
        due("P1 again on no thing", x.again(0, 1, 0), -2);
        due("P1 drop on no thing", x.drop(1), false);
        for (int call = 0; call < 32; call++) {
            due("P1 failure of " + call, x.fails(call, 0), 0);
        }
        for (int row = 0; row < 4; row++) {
            due("P1 first in row " + row, new MainframeDesk().collect(row, 9), 1);
        }
        for (int kind = 0; kind < 8; kind++) {
            due("P1 make " + kind, x.make(kind), kind + 1);
        }
        for (int call = 0; call < 24; call++) {
            due("P1 answer of " + call, x.again(call, call % 8 + 1, 0), 0);
        }
        for (int call = 24; call < 32; call++) {
            due("P1 empty row of " + call, x.again(call, call % 8 + 1, 0), -5);
        }
    }

    // Promise 2

    private static void collect() {
        MainframeDesk x = new MainframeDesk();
        x.make(0);
        for (int row = 0; row < 4; row++) {
            for (int i = 1; i <= 50; i++) {
                due("P2 collect " + i + " in row " + row, x.collect(row, i), i);
            }
            due("P2 collect in a full row " + row, x.collect(row, 1000), -1);
            due("P2 again in a full row " + row, x.collect(row, 0), -1);
        }
        due("P2 what was not collected is not summed", x.call(8, 1, 0), 1275);
        due("P2 a row that was taken collects anew", x.collect(0, 7), 1);
        due("P2 the others stay full", x.collect(1, 7), -1);
        due("P2 row 4", x.collect(4, 1), -1);
        for (int row : NOT_INDEXES) {
            due("P2 row " + row, x.collect(row, 1), -1);
        }
    }

    private static void collectedRowsAreApart() {
        MainframeDesk x = new MainframeDesk();
        for (int kind = 0; kind < 4; kind++) {
            x.make(kind);
        }
        for (int row = 0; row < 4; row++) {
            x.collect(row, 10 + row);
            x.collect(row, 100 * row);
        }
        for (int row = 0; row < 4; row++) {
            due("P2 sum of row " + row, x.call(8 + row, row + 1, 0), 10 + 101 * row);
        }
    }

    // Promise 3

    private static void answer() {
        MainframeDesk x = new MainframeDesk();
        for (int kind = 0; kind < 8; kind++) {
            x.make(kind);
        }
        for (int call = 0; call < 32; call++) {
            due("P3 answer " + call, x.answer(call, 1000L * call + 1), 1);
        }
        for (int call = 0; call < 24; call++) {
            due("P3 answered " + call, x.again(call, call % 8 + 1, 0), 1000L * call + 1);
        }
        due("P3 set anew", x.answer(5, Long.MIN_VALUE), 1);
        due("P3 the latest counts", x.call(5, 6, 0), Long.MIN_VALUE);
        due("P3 an answer stays", x.call(5, 6, 0), Long.MIN_VALUE);
        due("P3 call 32", x.answer(32, 1), -1);
        for (int call : NOT_INDEXES) {
            due("P3 call " + call, x.answer(call, 1), -1);
        }
        due("P3 the others are as before", x.call(0, 1, 0), 1);
    }

    // Promise 4

    private static void fails() {
        MainframeDesk x = new MainframeDesk();
        int before = 0;
        for (int kind = 0; kind <= 6; kind++) {
            due("P4 fails to " + kind, x.fails(31, kind), before);
            before = kind;
        }
        due("P4 failure 7", x.fails(31, 7), -1);
        for (int kind : NOT_INDEXES) {
            due("P4 failure " + kind, x.fails(31, kind), -1);
        }
        due("P4 a wrong failure changes nothing", x.fails(31, 0), 6);
        due("P4 back to none", x.fails(31, 2), 0);
        due("P4 another call has its own", x.fails(30, 1), 0);
        due("P4 first call", x.fails(0, 3), 0);
        due("P4 first call again", x.fails(0, 3), 3);
        due("P4 call 32", x.fails(32, 1), -1);
        due("P4 call 32 with none", x.fails(32, 0), -1);
        for (int call : NOT_INDEXES) {
            due("P4 call " + call, x.fails(call, 1), -1);
        }
        due("P4 nothing told by setting", x.told(3), 0);
    }

    // Promise 5

    private static void make() {
        MainframeDesk x = new MainframeDesk();
        due("P5 kind 8", x.make(8), -1);
        for (int kind : NOT_INDEXES) {
            due("P5 kind " + kind, x.make(kind), -1);
        }
        due("P5 first", x.make(0), 1);
        x.drop(1);
        x.fails(1, 1);
        due("P5 a dropped number is not used again", x.make(1), 2);
        x.call(1, 2, 0);
        due("P5 an ended number is not used again", x.make(1), 3);
        for (int number = 4; number <= 200; number++) {
            due("P5 make", x.make(number % 8), number);
        }
        due("P5 after 200", x.make(0), -1);
        due("P5 the last is there", x.call(0, 200, 3), 3);
        due("P5 the one behind it is not", x.call(0, 201, 3), -2);
        due("P5 drop the last", x.drop(200), true);
        due("P5 dropping gives no new number", x.make(0), -1);
        due("P5 still none", x.call(0, 201, 3), -2);
    }

    // Promise 6

    private static void callRefusals() {
        MainframeDesk x = new MainframeDesk();
        for (int kind = 0; kind < 8; kind++) {
            x.make(kind);
        }
        due("P6 call 32", x.call(32, 1, 0), -2);
        for (int bad : NOT_INDEXES) {
            due("P6 call " + bad, x.call(bad, 1, 0), -2);
            due("P6 call " + bad + " on the last kind", x.call(bad, 8, 0), -2);
            due("P6 thing " + bad, x.call(0, bad, 0), -2);
        }
        due("P6 thing 0", x.call(0, 0, 0), -2);
        due("P6 thing 9", x.call(0, 9, 0), -2);
        for (int call = 0; call < 24; call++) {
            for (int kind = 0; kind < 8; kind++) {
                due("P6 call " + call + " kind " + kind, x.again(call, kind + 1, 7), call % 8 == kind ? 7 : -2);
            }
        }
        long[] bads = {-1, 1000001, Long.MIN_VALUE, Long.MAX_VALUE, 1L << 32, -(1L << 32)};
        for (long bad : bads) {
            due("P6 a = " + bad, x.call(0, 1, bad), -4);
        }
        due("P6 a = 0", x.call(0, 1, 0), 0);
        due("P6 a = 1000000", x.call(0, 1, 1000000), 1000000);
    }

    private static void callRefusalsInOrder() {
        MainframeDesk x = new MainframeDesk();
        x.make(0);
        x.drop(1);
        due("P6 no such call before a", x.call(32, 1, -1), -2);
        due("P6 another kind before a and dropped", x.call(1, 1, -1), -2);
        due("P6 another kind before dropped", x.call(1, 1, 0), -2);
        due("P6 a before dropped", x.call(0, 1, -1), -4);
        due("P6 dropped", x.call(0, 1, 0), -5);
        x.make(0);
        due("P6 a before the row's need", x.call(24, 2, 1000001), -4);
        due("P6 the row's need", x.call(24, 2, 1000000), -5);
        x.fails(24, 3);
        x.fails(0, 3);
        due("P6 the row's need before the failure", x.call(24, 2, 0), -5);
        due("P6 a before the failure", x.call(0, 2, -1), -4);
        due("P6 dropped before the failure", x.call(0, 1, 0), -5);
        x.collect(0, 5);
        due("P6 a refusal before the row is taken", x.call(24, 2, -1), -4);
        due("P6 dropped before the row is taken", x.call(24, 1, 0), -5);
        due("P6 the row is as it was", x.collect(0, 5), 2);
        due("P6 refusals do not end a thing", x.call(24, 2, 0), -13);
    }

    private static void callRows() {
        for (int call = 0; call < 32; call++) {
            MainframeDesk x = new MainframeDesk();
            x.make(call % 8);
            for (int row = 0; row < 4; row++) {
                x.collect(row, 10L * row + 1);
                x.collect(row, 100);
            }
            boolean takes = call >= 8;
            long sum = takes ? 10L * (call % 4) + 101 : 0;
            due("P6 row of call " + call, x.call(call, 1, 3), sum + 3);
            for (int row = 0; row < 4; row++) {
                boolean taken = takes && row == call % 4;
                due("P6 call " + call + " leaves row " + row, x.collect(row, 1), taken ? 1 : 3);
            }
        }
    }

    private static void callNeeds() {
        for (int call = 8; call < 32; call++) {
            MainframeDesk x = new MainframeDesk();
            x.make(call % 8);
            boolean needs = call >= 24;
            due("P6 need of call " + call, x.call(call, 1, 6), needs ? -5 : 6);
            for (int other = 1; other < 4; other++) {
                x.collect((call + other) % 4, 1);
            }
            due("P6 other rows do not help call " + call, x.again(call, 1, 6) == -5, needs);
            x.fails(call, 1);
            x.collect(call % 4, 0);
            due("P6 one is enough, 0 too, for call " + call, x.call(call, 1, 0), -11);
        }
    }

    private static void callSums() {
        MainframeDesk x = new MainframeDesk();
        x.make(2);
        x.answer(10, Long.MAX_VALUE);
        due("P6 answer + a goes round", x.call(10, 1, 1), Long.MIN_VALUE);
        x.answer(10, 0);
        x.collect(2, Long.MAX_VALUE);
        x.collect(2, Long.MAX_VALUE);
        x.collect(2, 5);
        due("P6 the sum goes round", x.call(10, 1, 0), 3);
        x.answer(10, Long.MIN_VALUE);
        x.collect(2, Long.MIN_VALUE);
        due("P6 answer + sum goes round", x.call(10, 1, 4), 4);
        x.answer(10, -5);
        due("P6 an answer like a refusal", x.call(10, 1, 0), -5);
        x.answer(10, -11);
        due("P6 an answer like a failure", x.call(10, 1, 0), -11);
        x.answer(10, 1L << 40);
        due("P6 an answer of more than 32 bits", x.call(10, 1, 1), (1L << 40) + 1);
        due("P6 the thing is there still", x.numbers(2), 1);
    }

    private static void callCountsForKindThree() {
        MainframeDesk x = new MainframeDesk();
        for (int kind = 0; kind < 8; kind++) {
            x.make(kind);
        }
        x.make(3);
        for (int kind = 0; kind < 8; kind++) {
            due("P6 first of kind " + kind, x.call(kind, kind + 1, 0), 0);
            due("P6 second of kind " + kind, x.call(kind, kind + 1, 0), kind == 3 ? 1 : 0);
        }
        due("P6 every call of that thing counts", x.call(11, 4, 0), 2);
        due("P6 refusals do not count", x.call(3, 4, -1), -4);
        due("P6 nor does again", x.again(19, 4, 0), 3);
        due("P6 so it is still", x.call(19, 4, 10), 13);
        due("P6 another thing has its own count", x.call(3, 9, 0), 0);
        x.answer(3, Long.MAX_VALUE);
        due("P6 the count goes round too", x.call(3, 9, 0), Long.MIN_VALUE);
    }

    private static void callFailures() {
        for (int call = 0; call < 24; call++) {
            for (int failure = 1; failure <= 6; failure++) {
                String name = "P6 call " + call + " failure " + failure;
                MainframeDesk x = new MainframeDesk();
                x.make(call % 8);
                x.make(call % 8);
                x.answer(call, 77);
                x.fails(call, failure);
                due(name, x.call(call, 1, 5), -10 - failure);
                due(name + " ends the thing", x.call(call, 1, 5), -5);
                due(name + " for other calls too", x.call((call + 8) % 24, 1, 5), -5);
                due(name + " ends it alone", x.numbers(call % 8), 1);
                due(name + " stays with the call", x.fails(call, 0), failure);
                due(name + " is over", x.call(call, 2, 5), 82);
                due(name + " but not for the ended", x.call(call, 1, 5), -5);
            }
        }
    }

    private static void callFailureTakesItsRow() {
        MainframeDesk x = new MainframeDesk();
        x.make(1);
        x.make(1);
        x.make(1);
        x.fails(9, 4);
        x.fails(1, 4);
        x.collect(1, 6);
        x.collect(0, 6);
        due("P6 a failure without a row", x.call(1, 1, 0), -14);
        due("P6 takes none", x.collect(1, 6), 2);
        due("P6 a failure with a row", x.call(9, 2, 0), -14);
        due("P6 what was taken is gone", x.call(25, 3, 0), -5);
        due("P6 the row collects anew", x.collect(1, 8), 1);
        due("P6 with nothing of before", x.call(25, 3, 0), 8);
        due("P6 other rows are as they were", x.collect(0, 6), 2);
    }

    // Promise 7

    private static void told() {
        MainframeDesk x = new MainframeDesk();
        x.make(0);
        x.make(5);
        x.fails(8, 6);
        x.fails(29, 2);
        x.call(8, 1, 0);
        due("P7 failure", x.told(0), 6);
        due("P7 its call", x.told(1), 8);
        due("P7 its thing", x.told(2), 1);
        due("P7 failures", x.told(3), 1);
        x.call(29, 2, 0);
        due("P7 a refusal is no failure", x.told(0), 6);
        x.collect(1, 1);
        x.call(29, 2, 0);
        due("P7 the latest failure", x.told(0), 2);
        due("P7 the latest call", x.told(1), 29);
        due("P7 the latest thing", x.told(2), 2);
        due("P7 two failures", x.told(3), 2);
        due("P7 one refusal", x.told(4), 1);
        due("P7 no answer", x.told(5), 0);
        x.fails(29, 3);
        x.make(0);
        x.call(0, 3, 0);
        due("P7 setting a failure tells none", x.told(0), 2);
        due("P7 an answer leaves the failure told", x.told(1), 29);
        due("P7 one answer", x.told(5), 1);
        due("P7 told changes nothing", x.told(5), 1);
        due("P7 told 6", x.told(6), -1);
        for (int what : NOT_INDEXES) {
            due("P7 told " + what, x.told(what), -1);
        }
    }

    private static void toldCountsByWhatHappened() {
        MainframeDesk x = new MainframeDesk();
        x.make(0);
        long[] looksLikeOthers = {-1, -2, -4, -5, -10, -11, -16};
        for (long answer : looksLikeOthers) {
            x.answer(0, answer);
            due("P7 answer " + answer, x.call(0, 1, 0), answer);
        }
        due("P7 no failures", x.told(3), 0);
        due("P7 no refusals", x.told(4), 0);
        due("P7 answers", x.told(5), looksLikeOthers.length);
        x.call(32, 1, 0);
        x.call(0, 2, 0);
        x.call(1, 1, 0);
        x.call(0, 1, -1);
        x.call(24, 1, 0);
        x.drop(1);
        x.call(0, 1, 0);
        due("P7 every refusal counts", x.told(4), 6);
        x.collect(4, 0);
        x.make(8);
        x.answer(32, 0);
        x.fails(32, 0);
        x.drop(1);
        x.numbers(8);
        x.again(32, 1, 0);
        x.told(6);
        due("P7 only calls are refused", x.told(4), 6);
    }

    // Promise 8

    private static void drop() {
        MainframeDesk x = new MainframeDesk();
        x.make(0);
        x.make(0);
        x.make(0);
        due("P8 drop", x.drop(2), true);
        due("P8 drop again", x.drop(2), false);
        due("P8 it is not there", x.call(0, 2, 0), -5);
        due("P8 the one before is", x.call(0, 1, 4), 4);
        due("P8 the one behind is", x.call(0, 3, 4), 4);
        x.fails(0, 1);
        x.call(0, 3, 0);
        due("P8 an ended thing was not there", x.drop(3), false);
        due("P8 dropping tells nothing", x.told(3), 1);
        due("P8 thing 0", x.drop(0), false);
        due("P8 thing 4", x.drop(4), false);
        for (int number : NOT_INDEXES) {
            due("P8 thing " + number, x.drop(number), false);
        }
        due("P8 the first is there still", x.drop(1), true);
        due("P8 thing 4 made later", x.make(0), 4);
        due("P8 is there, though dropped before", x.drop(4), true);
    }

    // Promise 9

    private static void numbers() {
        MainframeDesk x = new MainframeDesk();
        for (int number = 1; number <= 200; number++) {
            x.make(number % 8);
        }
        for (int kind = 0; kind < 8; kind++) {
            due("P9 numbers " + kind, x.numbers(kind), 25);
        }
        x.drop(200);
        x.drop(200);
        x.drop(8);
        x.fails(1, 1);
        x.call(1, 1, 0);
        x.call(1, 1, 0);
        x.drop(1);
        due("P9 without the dropped", x.numbers(0), 23);
        due("P9 without the ended", x.numbers(1), 24);
        due("P9 the others are as before", x.numbers(7), 25);
        due("P9 kind 8", x.numbers(8), -1);
        for (int kind : NOT_INDEXES) {
            due("P9 kind " + kind, x.numbers(kind), -1);
        }
    }

    // Promise 10

    private static void again() {
        MainframeDesk x = new MainframeDesk();
        x.make(3);
        x.make(3);
        x.answer(27, 1000);
        due("P10 no such call", x.again(32, 1, 0), -2);
        for (int bad : NOT_INDEXES) {
            due("P10 call " + bad, x.again(bad, 1, 0), -2);
            due("P10 thing " + bad, x.again(3, bad, 0), -2);
        }
        due("P10 another kind", x.again(2, 1, 0), -2);
        due("P10 a below", x.again(27, 1, -1), -4);
        due("P10 a above", x.again(27, 1, 1000001), -4);
        due("P10 the row's need", x.again(27, 1, 0), -5);
        x.collect(3, 20);
        x.collect(3, 3);
        x.call(3, 1, 0);
        due("P10 answer, a, sum and count", x.again(27, 1, 400000), 401024);
        due("P10 of the other thing", x.again(27, 2, 400000), 401023);
        x.fails(27, 5);
        due("P10 a failure", x.again(27, 1, 0), -15);
        x.drop(2);
        due("P10 of a dropped thing", x.again(27, 2, 0), -5);
    }

    private static void againChangesNothing() {
        MainframeDesk x = new MainframeDesk();
        x.make(3);
        x.collect(3, 20);
        x.fails(19, 5);
        for (int time = 0; time < 3; time++) {
            due("P10 the row is not taken", x.again(11, 1, 0), 20);
            due("P10 the thing is not ended", x.again(19, 1, 0), -15);
            due("P10 a refusal", x.again(11, 1, -1), -4);
        }
        for (int what = 0; what < 6; what++) {
            due("P10 nothing is told, " + what, x.told(what), 0);
        }
        due("P10 the thing is there", x.numbers(3), 1);
        due("P10 the row has its number", x.collect(3, 1), 2);
        due("P10 then the call answers so", x.call(11, 1, 0), 21);
    }

    private static void desksAreApart() {
        MainframeDesk x = new MainframeDesk();
        MainframeDesk y = new MainframeDesk();
        x.make(0);
        x.collect(0, 5);
        x.answer(0, 5);
        x.fails(8, 5);
        x.call(8, 1, 0);
        due("P1 no things of another desk", y.numbers(0), 0);
        due("P1 numbers of its own", y.make(0), 1);
        due("P1 rows of its own", y.collect(0, 1), 1);
        due("P1 answers of its own", y.call(0, 1, 0), 0);
        due("P1 failures of its own", y.fails(8, 0), 0);
        due("P1 nothing told of another desk", y.told(3), 0);
    }
}
