import java.util.NoSuchElementException;
import java.util.function.Function;

/**
 * Promises 2 to 36, each call with arguments on both sides of every edge, beside mails that are full and
 * such as are one short of it: the exception listed first of those that apply is thrown and nothing is
 * changed, and where none applies none is thrown.
 */
public final class RefusedCallsTest {
    private static final Class<IndexOutOfBoundsException> OUT = IndexOutOfBoundsException.class;
    private static final Class<IllegalArgumentException> BAD = IllegalArgumentException.class;
    private static final Class<IllegalStateException> NOT_NOW = IllegalStateException.class;
    private static final Class<NoSuchElementException> NONE = NoSuchElementException.class;
    private static final Class<ArithmeticException> NO_MEAN = ArithmeticException.class;

    private static final int LEAST = Integer.MIN_VALUE;
    private static final int MOST = Integer.MAX_VALUE;
    /** In the mails here: no tubes lead to it, and another one is closed. */
    private static final int APART = 6;
    private static final int CLOSED = 4;
    private static final int DELIVERED = 3;

    private RefusedCallsTest() {
    }

    public static void main(String[] args) {
        for (boolean full : new boolean[] {false, true}) {
            theMail(full);
            stations(full);
            tubes(full);
            blowing(full);
            tubeSettings(full);
            power(full);
            ways(full);
            airAndDraught(full);
            carriers(full);
            dials(full);
            carrierSettings(full);
            carrierAnswers(full);
            accepting(full);
            itemAnswers(full);
            blockedTubes(full);
            passing(full);
            log(full);
        }
        allSigns();
        noMeanOfNone();
        Check.end();
    }

    /**
     * All kinds of things: items 0 (late), 1 (late, claimed) and 2 (in time) are delivered, item 3 is in
     * carrier 1 at station 2, the others wait; carrier 2 sticks in tube 1, carrier 3 goes behind it. Full
     * are 8 stations, 14 tubes, 12 carriers and 60 items.
     */
    private static Tubepost mail(boolean full) {
        Tubepost x = Nets.stations(full ? 8 : 7, 3);
        x.tube(0, 1, 1);
        x.tube(1, 2, 12);
        for (int i = 2; i < (full ? 14 : 13); i++) {
            int first = Math.min(i, 4);
            x.tube(first, first + 1, 6);
        }
        x.blow(0, 's');
        x.blow(1, 's');
        x.accept(0, 1, 2, 1);
        x.accept(0, 1, 2, 2);
        x.pass(10);
        x.carrier(0);
        x.accept(0, 1, 0, 3);
        x.accept(2, 3, 0, 5);
        x.carrier(2);
        x.pass(2);
        x.claim(1);
        addCarriers(x, full);
        for (int i = 4; i < (full ? 60 : 59); i++) {
            x.accept(5, 3, 0, 9);
        }
        x.setHours(CLOSED, 20, 21);
        return x;
    }

    private static void addCarriers(Tubepost x, boolean full) {
        for (int i = 2; i < 4; i++) {
            x.carrier(1);
            x.dial(i, 2);
        }
        x.wear(2, 98);
        x.pass(3);
        for (int i = 4; i < (full ? 12 : 11); i++) {
            x.carrier(3);
        }
    }

    /** That the mail is as told above, so that what is refused below is refused for the reason meant. */
    private static void theMail(boolean full) {
        Tubepost x = mail(full);
        StringBuilder items = new StringBuilder();
        for (int i = 0; i < itemsOf(full); i++) {
            items.append(x.itemState(i));
        }
        Check.is("items", "dddc" + "w".repeat(itemsOf(full) - 4), items.toString());
        StringBuilder carriers = new StringBuilder();
        for (int i = 0; i < carriersOf(full); i++) {
            carriers.append(x.why(i));
        }
        Check.is("carriers", "dwtt" + "d".repeat(carriersOf(full) - 4), carriers.toString());
        Check.is("the one that sticks", 202, x.placeOf(2));
        Check.is("the one behind it", 200, x.placeOf(3));
        Check.is("sound", true, x.isSound());
    }

    /** The call on a mail that is new each time; the kinds of exception in the order of the document. */
    private static void due(String told, boolean full, Function<Tubepost, Object> call, Object... whenAndKind) {
        Tubepost x = mail(full);
        String before = State.of(x);
        String got = Check.answer(() -> call.apply(x));
        for (int i = 0; i < whenAndKind.length; i += 2) {
            if ((Boolean) whenAndKind[i]) {
                Check.is(told, "throws." + ((Class<?>) whenAndKind[i + 1]).getSimpleName(), got);
                Check.is(told + " leaves the state", before, State.of(x));
                return;
            }
        }
        Check.is(told + " answered " + got + ", which is an exception", false, got.contains("throws"));
    }

    /** Numbers on both sides of the edges of 0 to below the bound. */
    private static int[] around(int bound) {
        return new int[] {LEAST, -2, -1, 0, bound - 1, bound, bound + 1, MOST};
    }

    private static boolean beyond(int number, int bound) {
        return number < 0 || number >= bound;
    }

    private static int stationsOf(boolean full) {
        return full ? 8 : 7;
    }

    private static int tubesOf(boolean full) {
        return full ? 14 : 13;
    }

    private static int carriersOf(boolean full) {
        return full ? 12 : 11;
    }

    private static int itemsOf(boolean full) {
        return full ? 60 : 59;
    }

    private static void stations(boolean full) {
        for (int clerk : new int[] {LEAST, -1, 0, 1, 2, 3, 4, MOST}) {
            due("station(" + clerk + ")", full, x -> x.station(clerk),
                    clerk < 1 || clerk > 3, BAD, full, NOT_NOW);
        }
        int[] hours = {LEAST, -1, 0, 1, 22, 23, 24, 25, MOST};
        for (int station : around(stationsOf(full))) {
            for (int from : hours) {
                for (int to : hours) {
                    due("setHours(" + station + ", " + from + ", " + to + ")", full,
                            x -> x.setHours(station, from, to), beyond(station, stationsOf(full)), OUT,
                            from < 0 || from > 23 || to <= from || to > 24, BAD);
                }
            }
        }
    }

    private static void tubes(boolean full) {
        int stations = stationsOf(full);
        for (int first : around(stations)) {
            for (int second : around(stations)) {
                for (int cells : new int[] {LEAST, -1, 0, 1, 12, 13, MOST}) {
                    due("tube(" + first + ", " + second + ", " + cells + ")", full,
                            x -> x.tube(first, second, cells),
                            beyond(first, stations) || beyond(second, stations), OUT,
                            first == second || cells < 1 || cells > 12, BAD, full, NOT_NOW);
                }
            }
        }
    }

    private static void blowing(boolean full) {
        for (int tube : new int[] {LEAST, -1, 0, 1, 2, tubesOf(full) - 1, tubesOf(full), MOST}) {
            for (char way : new char[] {'s', 'f', '-', 'S', 'F', 'r', 't', 'e', 'g', ',', '.', 0, 0xffff}) {
                due("blow(" + tube + ", " + (int) way + ")", full, x -> x.blow(tube, way),
                        beyond(tube, tubesOf(full)), OUT, "sf-".indexOf(way) < 0, BAD,
                        tube == 1 && way != 's', NOT_NOW);
            }
        }
    }

    private static void tubeSettings(boolean full) {
        int[] tenths = {LEAST, -1, 0, 9, 10, MOST};
        for (int tube : around(tubesOf(full))) {
            for (int leak : tenths) {
                for (int water : tenths) {
                    due("setTube(" + tube + ", " + leak + ", " + water + ")", full,
                            x -> x.setTube(tube, leak, water), beyond(tube, tubesOf(full)), OUT,
                            beyond(leak, 10) || beyond(water, 10), BAD);
                }
            }
            for (int gap : around(21)) {
                due("setGap(" + tube + ", " + gap + ")", full, x -> x.setGap(tube, gap),
                        beyond(tube, tubesOf(full)), OUT, beyond(gap, 21), BAD);
            }
        }
    }

    private static void power(boolean full) {
        for (int power : around(201)) {
            due("setPower(" + power + ")", full, x -> x.setPower(power), beyond(power, 201), BAD);
        }
    }

    private static void ways(boolean full) {
        int stations = stationsOf(full);
        int tubes = tubesOf(full);
        for (int station : new int[] {LEAST, -1, 0, APART, stations - 1, stations, MOST}) {
            for (int other : new int[] {LEAST, -1, 0, 1, APART, stations - 1, stations, MOST}) {
                boolean nowhere = beyond(station, stations) || beyond(other, stations);
                for (int tube : around(tubes)) {
                    due("setWay(" + station + ", " + other + ", " + tube + ")", full,
                            x -> x.setWay(station, other, tube),
                            nowhere || tube < -1 || tube >= tubes, OUT, station == other, BAD);
                }
                due("wayOf(" + station + ", " + other + ")", full, x -> x.wayOf(station, other), nowhere, OUT,
                        station == other || station >= APART || other >= APART, NONE);
            }
        }
    }

    private static void airAndDraught(boolean full) {
        for (int tube : around(tubesOf(full))) {
            due("draught(" + tube + ")", full, x -> x.draught(tube), beyond(tube, tubesOf(full)), OUT);
        }
    }

    private static void carriers(boolean full) {
        for (int station : around(stationsOf(full))) {
            due("carrier(" + station + ")", full, x -> x.carrier(station),
                    beyond(station, stationsOf(full)), OUT, full, NOT_NOW);
        }
    }

    private static boolean inTube(int carrier) {
        return carrier == 2 || carrier == 3;
    }

    /** Among the carriers one that sticks, one that goes, and such as wait. */
    private static int[] someCarriers(boolean full) {
        int count = carriersOf(full);
        return new int[] {LEAST, -2, -1, 0, 1, 2, 3, 4, count - 1, count, count + 1, MOST};
    }

    private static void dials(boolean full) {
        int stations = stationsOf(full);
        for (int carrier : someCarriers(full)) {
            for (int station : around(stations)) {
                due("dial(" + carrier + ", " + station + ")", full, x -> x.dial(carrier, station),
                        beyond(carrier, carriersOf(full)) || station < -1 || station >= stations, OUT,
                        inTube(carrier), NOT_NOW);
            }
        }
    }

    private static void carrierSettings(boolean full) {
        for (int carrier : someCarriers(full)) {
            boolean nobody = beyond(carrier, carriersOf(full));
            due("grease(" + carrier + ")", full, x -> x.grease(carrier), nobody, OUT, inTube(carrier), NOT_NOW);
            due("order(" + carrier + ")", full, x -> x.order(carrier), nobody, OUT);
            for (int by : around(101)) {
                due("wear(" + carrier + ", " + by + ")", full, x -> x.wear(carrier, by), nobody, OUT,
                        beyond(by, 101), BAD);
            }
        }
    }

    private static void carrierAnswers(boolean full) {
        for (int carrier : someCarriers(full)) {
            boolean nobody = beyond(carrier, carriersOf(full));
            due("placeOf(" + carrier + ")", full, x -> x.placeOf(carrier), nobody, OUT);
            due("placeByLog(" + carrier + ")", full, x -> x.placeByLog(carrier), nobody, OUT);
            due("dialOf(" + carrier + ")", full, x -> x.dialOf(carrier), nobody, OUT);
            due("weightOf(" + carrier + ")", full, x -> x.weightOf(carrier), nobody, OUT);
            due("why(" + carrier + ")", full, x -> x.why(carrier), nobody, OUT);
        }
    }

    private static void accepting(boolean full) {
        int stations = stationsOf(full);
        int[] some = {LEAST, -1, 0, 1, CLOSED, APART, stations - 1, stations, MOST};
        for (int from : some) {
            for (int to : some) {
                for (int rank : new int[] {LEAST, -1, 0, 2, 3, MOST}) {
                    for (int weight : new int[] {LEAST, -1, 0, 1, 9, 10, MOST}) {
                        due("accept(" + from + ", " + to + ", " + rank + ", " + weight + ")", full,
                                x -> x.accept(from, to, rank, weight),
                                beyond(from, stations) || beyond(to, stations), OUT,
                                from == to || beyond(rank, 3) || weight < 1 || weight > 9, BAD,
                                from >= APART || to >= APART, NONE, from == CLOSED || full, NOT_NOW);
                    }
                }
            }
        }
    }

    private static void itemAnswers(boolean full) {
        int count = itemsOf(full);
        for (int item : new int[] {LEAST, -2, -1, 0, 1, 2, 3, 4, count - 1, count, count + 1, MOST}) {
            boolean nothing = beyond(item, count);
            due("itemState(" + item + ")", full, x -> x.itemState(item), nothing, OUT);
            due("stamp(" + item + ", false)", full, x -> x.stamp(item, false), nothing, OUT);
            due("stamp(" + item + ", true)", full, x -> x.stamp(item, true), nothing, OUT,
                    item >= DELIVERED, NONE);
            due("claim(" + item + ")", full, x -> x.claim(item), nothing, OUT, item >= DELIVERED, NONE,
                    item == 1 || item == 2, NOT_NOW);
        }
    }

    private static void blockedTubes(boolean full) {
        int tubes = tubesOf(full);
        for (int tube : new int[] {LEAST, -1, 0, 1, 2, tubes - 1, tubes, MOST}) {
            due("sound(" + tube + ")", full, x -> x.sound(tube), beyond(tube, tubes), OUT, tube != 1, NONE);
            due("pressure(" + tube + ")", full, x -> x.pressure(tube), beyond(tube, tubes), OUT, tube != 1, NONE);
            int cells = tube == 0 ? 1 : tube == 1 ? 12 : 6;
            for (int cell : around(cells)) {
                due("dig(" + tube + ", " + cell + ")", full, x -> x.dig(tube, cell),
                        beyond(tube, tubes) || beyond(cell, cells), OUT);
            }
        }
    }

    private static void passing(boolean full) {
        for (int ticks : new int[] {LEAST, -48, -1, 0, 1, 47, 48, 49, MOST}) {
            due("pass(" + ticks + ")", full, x -> x.pass(ticks), ticks < 1 || ticks > 48, BAD);
        }
    }

    private static void log(boolean full) {
        int count = mail(full).entries();
        Check.is("entries from 0 on", true, count > 12);
        for (int index : around(count)) {
            due("entryAt(" + index + ")", full, x -> x.entryAt(index), beyond(index, count), OUT);
            for (char what : new char[] {'t', 'c', 'p', 's', 'u', 'b', 'd', 'o', 'q', 'T', 0, 0xffff}) {
                due("entryOf(" + index + ", " + (int) what + ")", full, x -> x.entryOf(index, what),
                        beyond(index, count), OUT, "tcp".indexOf(what) < 0, BAD);
            }
        }
        due("lateShare()", full, y -> y.lateShare());
        due("meanTime()", full, y -> y.meanTime());
    }

    /** Each sign that there is, where the document names three or four. */
    private static void allSigns() {
        Tubepost x = mail(true);
        String before = State.of(x);
        String bad = "throws.IllegalArgumentException";
        for (int i = 0; i <= 0xffff; i++) {
            char sign = (char) i;
            Check.is("air(" + i + ")", "rmul".indexOf(i) < 0, Check.answer(() -> x.air(sign)).equals(bad));
            Check.is("entryOf(0, " + i + ")", "tcp".indexOf(i) < 0,
                    Check.answer(() -> x.entryOf(0, sign)).equals(bad));
            Check.is("blow(1, " + i + ")", i == 's' ? "s" : i == 'f' || i == '-' ? "throws.IllegalStateException" : bad,
                    Check.answer(() -> x.blow(1, sign)));
        }
        Check.is("the signs leave the state", before, State.of(x));
    }

    /** None delivered: not one item, one that waits, one that is in a carrier. */
    private static void noMeanOfNone() {
        Tubepost x = Nets.pair(1, 2);
        for (int i = 0; i < 3; i++) {
            Check.throwsIt(x, "share of none", NO_MEAN, () -> x.lateShare());
            Check.throwsIt(x, "mean of none", NO_MEAN, () -> x.meanTime());
            if (i == 0) {
                x.accept(0, 1, 0, 1);
            } else {
                x.carrier(0);
                x.pass(2);
            }
        }
        x.pass(1);
        Check.reads(x, "share of one", 0f, () -> x.lateShare());
        Check.reads(x, "mean of one", 2.0, () -> x.meanTime());
    }
}
