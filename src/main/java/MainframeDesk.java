/**
 * A desk over the parts of a house: it keeps things by number and rows of collected numbers, and
 * makes calls that are refused, are answered, or fail and end their thing.
 */
public final class MainframeDesk {
    public static final int NONE = -1;

    private static final int MOST_THINGS = 200;
    private static final int KINDS = 8;
    private static final int COUNTING_KIND = 3;
    private static final int ROWS = 4;
    private static final int MOST_IN_ROW = 50;
    private static final int CALLS = 32;
    private static final int FIRST_CALL_WITH_ROW = 8;
    private static final int FIRST_CALL_IN_NEED = 24;
    private static final long MOST_A = 1000000L;
    private static final int LAST_FAILURE = 6;
    private static final int NO_FAILURE = 0;

    private static final int NOT_REFUSED = 0;
    private static final int NO_SUCH = -2;
    private static final int A_OUT_OF_RANGE = -4;
    private static final int NOT_READY = -5;
    private static final int BEFORE_FAILURES = -10;

    private final Thing[] things = new Thing[MOST_THINGS];
    private int made = 0;

    // A row's numbers are only ever counted and summed up, so the count and the sum stand for them.
    private final int[] rowCounts = new int[ROWS];
    private final long[] rowSums = new long[ROWS];

    private final long[] answers = new long[CALLS];
    private final int[] failures = new int[CALLS];

    private int latestFailure = NO_FAILURE;
    private int latestFailedCall = 0;
    private int latestEndedThing = 0;
    private int failureCount = 0;
    private int refusalCount = 0;
    private int answerCount = 0;

    /** A thing that was made; no call tells a dropped thing from an ended one, so neither is there. */
    private static final class Thing {
        private final int kind;
        private boolean there = true;
        private int answered = 0;

        private Thing(int kind) {
            this.kind = kind;
        }
    }

    public MainframeDesk() {
    }

    public int collect(int what, long v) {
        if (!isWithin(what, ROWS) || rowCounts[what] >= MOST_IN_ROW) {
            return NONE;
        }
        rowCounts[what]++;
        rowSums[what] += v;
        return rowCounts[what];
    }

    public int answer(int call, long v) {
        if (!isWithin(call, CALLS)) {
            return NONE;
        }
        answers[call] = v;
        return 1;
    }

    public int fails(int call, int kind) {
        if (!isWithin(call, CALLS) || kind < NO_FAILURE || kind > LAST_FAILURE) {
            return NONE;
        }
        int before = failures[call];
        failures[call] = kind;
        return before;
    }

    public int make(int kind) {
        if (!isWithin(kind, KINDS) || made >= MOST_THINGS) {
            return NONE;
        }
        things[made] = new Thing(kind);
        made++;
        return made;
    }

    public long call(int call, int number, long a) {
        Thing thing = find(number);
        int refusal = refusalOf(call, thing, a);
        if (refusal != NOT_REFUSED) {
            refusalCount++;
            return refusal;
        }
        // What is answered is worked out first: taking the row and counting the answer change it.
        long outcome = outcomeOf(call, thing, a);
        takeRow(call);
        if (failures[call] == NO_FAILURE) {
            thing.answered++;
            answerCount++;
        } else {
            thing.there = false;
            tell(call, number);
        }
        return outcome;
    }

    public int told(int what) {
        switch (what) {
            case 0:
                return latestFailure;
            case 1:
                return latestFailedCall;
            case 2:
                return latestEndedThing;
            case 3:
                return failureCount;
            case 4:
                return refusalCount;
            case 5:
                return answerCount;
            default:
                return NONE;
        }
    }

    public boolean drop(int number) {
        Thing thing = find(number);
        if (thing == null || !thing.there) {
            return false;
        }
        thing.there = false;
        return true;
    }

    public int numbers(int kind) {
        if (!isWithin(kind, KINDS)) {
            return NONE;
        }
        int count = 0;
        for (int number = 1; number <= made; number++) {
            Thing thing = find(number);
            if (thing != null && thing.there && thing.kind == kind) {
                count++;
            }
        }
        return count;
    }

    public long again(int call, int number, long a) {
        Thing thing = find(number);
        int refusal = refusalOf(call, thing, a);
        return refusal != NOT_REFUSED ? refusal : outcomeOf(call, thing, a);
    }

    private static boolean isWithin(int index, int length) {
        return index >= 0 && index < length;
    }

    private static boolean hasRow(int call) {
        return call >= FIRST_CALL_WITH_ROW;
    }

    private static int rowOf(int call) {
        return call % ROWS;
    }

    /** The thing with that number, or null when none was made with it. */
    private Thing find(int number) {
        return number >= 1 && number <= made ? things[number - 1] : null;
    }

    /** NOT_REFUSED only for a call that is one and a thing that is not null. */
    private int refusalOf(int call, Thing thing, long a) {
        if (!isWithin(call, CALLS) || thing == null || thing.kind != call % KINDS) {
            return NO_SUCH;
        }
        if (a < 0 || a > MOST_A) {
            return A_OUT_OF_RANGE;
        }
        boolean lacksNumber = call >= FIRST_CALL_IN_NEED && rowCounts[rowOf(call)] == 0;
        return !thing.there || lacksNumber ? NOT_READY : NOT_REFUSED;
    }

    /** What a call that is not refused answers, a failure included. */
    private long outcomeOf(int call, Thing thing, long a) {
        if (failures[call] != NO_FAILURE) {
            return BEFORE_FAILURES - failures[call];
        }
        long sum = answers[call] + a;
        if (hasRow(call)) {
            sum += rowSums[rowOf(call)];
        }
        if (thing.kind == COUNTING_KIND) {
            sum += thing.answered;
        }
        return sum;
    }

    private void takeRow(int call) {
        if (hasRow(call)) {
            rowCounts[rowOf(call)] = 0;
            rowSums[rowOf(call)] = 0;
        }
    }

    private void tell(int call, int number) {
        latestFailure = failures[call];
        latestFailedCall = call;
        latestEndedThing = number;
        failureCount++;
    }
}
