import java.util.Random;
import java.util.function.Supplier;

/** Runs of random calls, answered by the class and by the model; seeds are fixed, so each run is the same. */
public final class RandomRunsTest {
    private static final int RUNS = 1500;
    private static final int CALLS = 512;

    private final Random random;
    private final int seed;
    private final Tubepost x = new Tubepost();
    private final Model m = new Model();
    private int calls = 0;
    private int odd;

    private RandomRunsTest(int seed) {
        this.seed = seed;
        this.random = new Random(seed);
    }

    public static void main(String[] args) {
        for (int seed = 0; seed < RUNS; seed++) {
            new RandomRunsTest(seed).run();
        }
        Check.end();
    }

    private void run() {
        odd = random.nextInt(3) == 0 ? 20 : 200;
        build();
        boolean calm = random.nextBoolean();
        while (calls < CALLS - 40) {
            int kind = random.nextInt(calm ? 60 : 40);
            if (kind < 40) {
                call(kind);
            } else if (kind < 48) {
                accept();
            } else {
                pass();
            }
        }
        readAll();
        Check.is(told("the log"), log(m), Nets.log(x));
    }

    private static String log(Model m) {
        StringBuilder text = new StringBuilder();
        for (int i = 0; i < m.entries(); i++) {
            text.append(i == 0 ? "" : " ").append(m.entryAt(i)).append(m.entryOf(i, 'c')).append('@')
                    .append(m.entryOf(i, 't')).append(':').append(m.entryOf(i, 'p'));
        }
        return text.toString();
    }

    private String told(String call) {
        return "seed " + seed + ", call " + calls + ", " + call;
    }

    private void both(String call, Supplier<?> got, Supplier<?> want) {
        calls++;
        Check.is(told(call), Check.answer(want), Check.answer(got));
    }

    /** A number from 0 to below the bound; at times one beyond, or far beyond. */
    private int upTo(int bound) {
        if (random.nextInt(odd) == 0) {
            int[] beyond = {-1, bound, -2, bound + 1, Integer.MAX_VALUE, Integer.MIN_VALUE, 1 << 30};
            return beyond[random.nextInt(beyond.length)];
        }
        return bound <= 0 ? 0 : random.nextInt(bound);
    }

    private char of(String letters) {
        return random.nextInt(odd) == 0 ? (char) random.nextInt(256) : letters.charAt(random.nextInt(letters.length()));
    }

    private void build() {
        int stations = 2 + random.nextInt(7);
        for (int i = 0; i < stations; i++) {
            station();
        }
        int tubes = 1 + random.nextInt(14);
        int longest = random.nextBoolean() ? 3 : 12;
        for (int i = 0; i < tubes; i++) {
            int a = i < stations - 1 ? i : upTo(stations);
            int b = i < stations - 1 ? i + 1 : upTo(stations);
            int cells = 1 + upTo(longest);
            both("tube", () -> x.tube(a, b, cells), () -> m.tube(a, b, cells));
            blow();
        }
        int carriers = 1 + random.nextInt(12);
        for (int i = 0; i < carriers; i++) {
            carrier();
        }
    }

    private void station() {
        int clerk = 1 + upTo(3);
        both("station(" + clerk + ")", () -> x.station(clerk), () -> m.station(clerk));
    }

    private int aStation() {
        return upTo(m.stops.size());
    }

    private int aTube() {
        return upTo(m.pipes.size());
    }

    private int aCarrier() {
        return upTo(m.boxes.size());
    }

    private void blow() {
        int t = aTube();
        char way = of("sssfff-");
        both("blow(" + t + ", " + way + ")", () -> x.blow(t, way), () -> m.blow(t, way));
    }

    private void carrier() {
        int s = aStation();
        both("carrier(" + s + ")", () -> x.carrier(s), () -> m.carrier(s));
    }

    private void accept() {
        int from = aStation();
        int to = aStation();
        int rank = upTo(3);
        int weight = 1 + upTo(random.nextBoolean() ? 3 : 9);
        both("accept(" + from + ", " + to + ", " + rank + ", " + weight + ")",
                () -> x.accept(from, to, rank, weight), () -> m.accept(from, to, rank, weight));
    }

    private void pass() {
        int ticks = random.nextInt(12) == 0 ? 1 + upTo(48) : 1 + upTo(4);
        both("pass(" + ticks + ")", () -> x.pass(ticks), () -> m.pass(ticks));
        both("isSound()", () -> x.isSound(), () -> m.isSound());
    }

    private void call(int kind) {
        if (kind < 12) {
            netCall(kind);
        } else if (kind < 23) {
            carrierCall(kind);
        } else {
            otherCall(kind);
        }
    }

    private void netCall(int kind) {
        int s = aStation();
        int o = aStation();
        int t = aTube();
        int from = upTo(24);
        int to = from + 1 + upTo(12);
        int small = upTo(10);
        int other = upTo(random.nextBoolean() ? 10 : 3);
        switch (kind) {
            case 0 -> station();
            case 1 -> both("setHours(" + s + ", " + from + ", " + to + ")",
                () -> x.setHours(s, from, to), () -> m.setHours(s, from, to));
            case 2 -> both("tube(" + s + ", " + o + ", " + small + ")",
                () -> x.tube(s, o, small), () -> m.tube(s, o, small));
            case 3, 4 -> blow();
            case 5 -> both("setTube(" + t + ", " + small + ", " + other + ")",
                () -> x.setTube(t, small, other), () -> m.setTube(t, small, other));
            case 6 -> both("setGap(" + t + ", " + small + ")", () -> x.setGap(t, small), () -> m.setGap(t, small));
            case 7 -> both("setPower(" + small * 5 + ")",
                () -> x.setPower(small * 5), () -> m.setPower(small * 5));
            case 8 -> both("setWay(" + s + ", " + o + ", " + (t - other / 2) + ")",
                () -> x.setWay(s, o, t - other / 2), () -> m.setWay(s, o, t - other / 2));
            case 9 -> both("setWay(" + s + ", " + o + ", " + t + ")",
                () -> x.setWay(s, o, t), () -> m.setWay(s, o, t));
            case 10 -> both("wayOf(" + s + ", " + o + ")", () -> x.wayOf(s, o), () -> m.wayOf(s, o));
            default -> {
                char what = of("rmul");
                both("draught(" + t + ")", () -> x.draught(t), () -> m.draught(t));
                both("air(" + what + ")", () -> x.air(what), () -> m.air(what));
            }
        }
    }

    private void carrierCall(int kind) {
        int c = aCarrier();
        int s = aStation();
        int by = random.nextBoolean() ? upTo(20) : upTo(101);
        switch (kind) {
            case 12 -> carrier();
            case 13, 14 -> both("dial(" + c + ", " + s + ")", () -> x.dial(c, s), () -> m.dial(c, s));
            case 15 -> both("dial(" + c + ", -1)", () -> x.dial(c, -1), () -> m.dial(c, -1));
            case 16 -> both("grease(" + c + ")", () -> x.grease(c), () -> m.grease(c));
            case 17 -> both("wear(" + c + ", " + by + ")", () -> x.wear(c, by), () -> m.wear(c, by));
            case 18 -> both("order(" + c + ")", () -> x.order(c), () -> m.order(c));
            case 19 -> both("placeOf(" + c + ")", () -> x.placeOf(c), () -> m.placeOf(c));
            case 20 -> both("placeByLog(" + c + ")", () -> x.placeByLog(c), () -> m.placeByLog(c));
            case 21 -> both("why(" + c + ")", () -> x.why(c), () -> m.why(c));
            default -> {
                both("dialOf(" + c + ")", () -> x.dialOf(c), () -> m.dialOf(c));
                both("weightOf(" + c + ")", () -> x.weightOf(c), () -> m.weightOf(c));
            }
        }
    }

    private void otherCall(int kind) {
        int i = upTo(m.parcels.size());
        int t = aTube();
        int e = upTo(m.entries());
        int cell = t >= 0 && t < m.pipes.size() ? upTo(m.pipes.get(t).cells) : upTo(12);
        boolean second = random.nextBoolean();
        char what = of("tcp");
        switch (kind) {
            case 23, 24, 25 -> accept();
            case 26 -> both("itemState(" + i + ")", () -> x.itemState(i), () -> m.itemState(i));
            case 27 -> both("stamp(" + i + ", " + second + ")", () -> x.stamp(i, second), () -> m.stamp(i, second));
            case 28 -> both("claim(" + i + ")", () -> x.claim(i), () -> m.claim(i));
            case 29 -> both("earned()", () -> x.earned(), () -> m.earned());
            case 30 -> both("sound(" + t + ")", () -> x.sound(t), () -> m.sound(t));
            case 31 -> both("pressure(" + t + ")", () -> x.pressure(t), () -> m.pressure(t));
            case 32 -> dig(t, cell);
            case 33 -> digAtAStuckOne();
            case 34 -> both("entries()", () -> x.entries(), () -> m.entries());
            case 35 -> both("entryAt(" + e + ")", () -> x.entryAt(e), () -> m.entryAt(e));
            case 36 -> both("entryOf(" + e + ", " + what + ")", () -> x.entryOf(e, what), () -> m.entryOf(e, what));
            case 37 -> both("lateShare()", () -> x.lateShare(), () -> m.lateShare());
            case 38 -> both("meanTime()", () -> x.meanTime(), () -> m.meanTime());
            default -> pass();
        }
    }

    private void dig(int tube, int cell) {
        both("dig(" + tube + ", " + cell + ")", () -> x.dig(tube, cell), () -> m.dig(tube, cell));
    }

    private void digAtAStuckOne() {
        for (Model.Box b : m.boxes) {
            if (b.tube >= 0 && b.wear == 100) {
                dig(b.tube, b.cell);
                return;
            }
        }
    }

    private void readAll() {
        for (int i = 0; i < m.boxes.size(); i++) {
            int c = i;
            both("placeOf(" + c + ") at the end", () -> x.placeOf(c), () -> m.placeOf(c));
            both("why(" + c + ") at the end", () -> x.why(c), () -> m.why(c));
            both("wear(" + c + ", 0) at the end", () -> x.wear(c, 0), () -> m.wear(c, 0));
        }
        for (int i = 0; i < m.parcels.size(); i++) {
            int p = i;
            Check.is(told("itemState(" + p + ") at the end"), m.itemState(p), x.itemState(p));
        }
    }
}
