import java.util.ArrayList;
import java.util.List;

/**
 * Long mixed runs on a desk beside a model that is written another way: it keeps every number, every
 * state and a log of what happened, and its parts really throw.
 */
public final class ModelTest {
    private static final int RUNS = 400;
    private static final int CALLS_PER_RUN = 512;

    private enum State { THERE, DROPPED, ENDED }

    private static final class Part {
        final int kind;
        State state = State.THERE;
        long answered = 0;

        Part(int kind) {
            this.kind = kind;
        }
    }

    private record Failed(int failure, int call, int thing) { }

    private static final class Model {
        final List<Part> parts = new ArrayList<>();
        final List<List<Long>> rows = new ArrayList<>();
        final long[] answers = new long[32];
        final int[] failures = new int[32];
        final List<Failed> failed = new ArrayList<>();
        int refused = 0;
        int answered = 0;

        Model() {
            for (int row = 0; row < 4; row++) {
                rows.add(new ArrayList<>());
            }
        }

        long collect(int what, long v) {
            if (what < 0 || what > 3 || rows.get(what).size() == 50) {
                return -1;
            }
            rows.get(what).add(v);
            return rows.get(what).size();
        }

        long answer(int call, long v) {
            if (call < 0 || call > 31) {
                return -1;
            }
            answers[call] = v;
            return 1;
        }

        long fails(int call, int kind) {
            if (call < 0 || call > 31 || kind < 0 || kind > 6) {
                return -1;
            }
            int before = failures[call];
            failures[call] = kind;
            return before;
        }

        long make(int kind) {
            if (kind < 0 || kind > 7 || parts.size() == 200) {
                return -1;
            }
            parts.add(new Part(kind));
            return parts.size();
        }

        long refusal(int call, int number, long a) {
            boolean isCall = call >= 0 && call <= 31;
            boolean isThing = number >= 1 && number <= parts.size();
            if (!isCall || !isThing || parts.get(number - 1).kind != call % 8) {
                return -2;
            }
            if (a < 0 || a > 1000000) {
                return -4;
            }
            boolean lacks = call >= 24 && rows.get(call % 4).isEmpty();
            return parts.get(number - 1).state != State.THERE || lacks ? -5 : 0;
        }

        long call(int call, int number, long a, boolean forGood) {
            long refusal = refusal(call, number, a);
            if (refusal != 0) {
                refused += forGood ? 1 : 0;
                return refusal;
            }
            Part part = parts.get(number - 1);
            List<Long> taken = call >= 8 ? new ArrayList<>(rows.get(call % 4)) : List.of();
            if (forGood && call >= 8) {
                rows.get(call % 4).clear();
            }
            try {
                long answer = work(part, call, a, taken);
                if (forGood) {
                    part.answered++;
                    answered++;
                }
                return answer;
            } catch (RuntimeException e) {
                int failure = failureOf(e);
                if (forGood) {
                    part.state = State.ENDED;
                    failed.add(new Failed(failure, call, number));
                }
                return -10 - failure;
            }
        }

        long work(Part part, int call, long a, List<Long> taken) {
            int[] none = new int[0];
            switch (failures[call]) {
                case 1: return 1 / none.length;
                case 2: return none[none.length];
                case 3: return new int[none.length - 1].length;
                case 4: throw new IllegalStateException();
                case 5: throw new IllegalArgumentException();
                case 6: throw new UnsupportedOperationException();
                default: break;
            }
            long sum = part.kind == 3 ? part.answered : 0;
            for (long one : taken) {
                sum += one;
            }
            return sum + a + answers[call];
        }

        static int failureOf(RuntimeException e) {
            Class<?>[] classes = {ArithmeticException.class, ArrayIndexOutOfBoundsException.class,
                NegativeArraySizeException.class, IllegalStateException.class,
                IllegalArgumentException.class, UnsupportedOperationException.class};
            for (int i = 0; i < classes.length; i++) {
                if (classes[i] == e.getClass()) {
                    return i + 1;
                }
            }
            throw e;
        }

        long told(int what) {
            Failed none = new Failed(0, 0, 0);
            Failed last = failed.isEmpty() ? none : failed.get(failed.size() - 1);
            long[] all = {last.failure(), last.call(), last.thing(), failed.size(), refused, answered};
            return what >= 0 && what < all.length ? all[what] : -1;
        }

        long drop(int number) {
            if (number < 1 || number > parts.size() || parts.get(number - 1).state != State.THERE) {
                return 0;
            }
            parts.get(number - 1).state = State.DROPPED;
            return 1;
        }

        long numbers(int kind) {
            if (kind < 0 || kind > 7) {
                return -1;
            }
            return parts.stream().filter(p -> p.kind == kind && p.state == State.THERE).count();
        }
    }

    /** Numbers that look mixed but are the same in every run of the test. */
    private static final class Mixer {
        private long state;

        Mixer(long seed) {
            state = seed;
        }

        long next() {
            state += 0x9E3779B97F4A7C15L;
            long z = state;
            z = (z ^ (z >>> 30)) * 0xBF58476D1CE4E5B9L;
            z = (z ^ (z >>> 27)) * 0x94D049BB133111EBL;
            return z ^ (z >>> 31);
        }

        int below(int bound) {
            return (int) Math.floorMod(next(), (long) bound);
        }

        /** Mostly 0 .. bound - 1, at times just outside or far off. */
        int about(int bound) {
            int[] odd = {-1, bound, Integer.MIN_VALUE, Integer.MAX_VALUE};
            return below(16) == 0 ? odd[below(odd.length)] : below(bound);
        }

        long value() {
            long[] edges = {Long.MIN_VALUE, Long.MAX_VALUE, 0, -1, -5, -11};
            int pick = below(4);
            return pick == 0 ? next() : pick == 1 ? edges[below(edges.length)] : below(100);
        }

        long a() {
            long[] edges = {0, 1000000, -1, 1000001, Long.MIN_VALUE, Long.MAX_VALUE};
            return below(8) == 0 ? edges[below(edges.length)] : below(1000001);
        }
    }

    private static int wrong = 0;

    private static void due(String what, long got, long want) {
        if (got != want) {
            wrong++;
            System.out.println(what + " answered " + got + ", due is " + want);
        }
    }

    public static void main(String[] args) {
        for (int run = 0; run < RUNS && wrong < 20; run++) {
            oneRun(run);
        }
        System.out.println(wrong == 0 ? "all answers are as due" : wrong + " answers are not as due");
        if (wrong != 0) {
            System.exit(1);
        }
    }

    private static void oneRun(int run) {
        MainframeDesk desk = new MainframeDesk();
        Model model = new Model();
        Mixer mixer = new Mixer(run);
        // Some runs make many things, some fail often, some let the rows fill up.
        int[] weights = {4 + 20 * (run % 3), 4, 1 + run % 5, 2 + 12 * (run % 4), 12 + 10 * (run % 2), 3, 1, 2, 8};
        for (int step = 1; step <= CALLS_PER_RUN; step++) {
            oneStep("run " + run + ", step " + step + ": ", desk, model, mixer, weights);
        }
    }

    private static int pick(Mixer mixer, int[] weights) {
        int sum = 0;
        for (int weight : weights) {
            sum += weight;
        }
        int left = mixer.below(sum);
        int at = 0;
        while (left >= weights[at]) {
            left -= weights[at];
            at++;
        }
        return at;
    }

    private static void oneStep(String where, MainframeDesk desk, Model model, Mixer m, int[] weights) {
        int call = m.about(32);
        int number = m.about(model.parts.size() + 1);
        // A call for the thing's own kind, most times, or hardly any would be answered.
        if (number >= 1 && number <= model.parts.size() && m.below(8) != 0) {
            call = m.below(4) * 8 + model.parts.get(number - 1).kind;
        }
        long a = m.a();
        long v = m.value();
        int kind = m.about(8);
        int row = m.about(4);
        int failure = m.below(2) == 0 ? 0 : m.about(7);
        int what = m.about(6);
        String made = "(" + call + ", " + number + ", " + a + ")";
        switch (pick(m, weights)) {
            case 0 -> due(where + "collect(" + row + ", " + v + ")", desk.collect(row, v), model.collect(row, v));
            case 1 -> due(where + "answer(" + call + ", " + v + ")", desk.answer(call, v), model.answer(call, v));
            case 2 -> due(where + "fails(" + call + ", " + failure + ")",
                desk.fails(call, failure), model.fails(call, failure));
            case 3 -> due(where + "make(" + kind + ")", desk.make(kind), model.make(kind));
            case 4 -> due(where + "call" + made, desk.call(call, number, a), model.call(call, number, a, true));
            case 5 -> due(where + "told(" + what + ")", desk.told(what), model.told(what));
            case 6 -> due(where + "drop(" + number + ")", desk.drop(number) ? 1 : 0, model.drop(number));
            case 7 -> due(where + "numbers(" + kind + ")", desk.numbers(kind), model.numbers(kind));
            default -> due(where + "again" + made, desk.again(call, number, a), model.call(call, number, a, false));
        }
    }
}
