/** The run with the most entries in the log, how much room it takes, and calls past the 512th one. */
public final class LongRunTest {
    private static final long MOST_OBJECTS = 600_000;
    private static final long MOST_ELEMENTS = 7_300_000;

    private LongRunTest() {
    }

    public static void main(String[] args) {
        Tubepost x = twelveInARing();
        int calls = 82;
        int ticks = 0;
        for (; calls < 508; calls++) {
            ticks += 48;
            Check.is("tick", ticks, x.pass(48));
        }
        Check.is("sound", true, x.isSound());
        int entries = x.entries();
        Check.is("entries", 12 + 24 * ticks - 12, entries);
        Check.is("last entry", "i" + (ticks - 1), "" + x.entryAt(entries - 1) + x.entryOf(entries - 1, 't'));
        Check.is("an entry far on", 20_000, x.entryOf(12 + 24 * 20_000, 't'));
        Check.is("an entry early", "a11", "" + x.entryAt(11) + x.entryOf(11, 'c'));
        entriesByTicks(x, entries);
        long[] size = State.sizeOf(x);
        System.out.println(entries + " entries, " + size[0] + " objects, " + size[1] + " fields and elements");
        Check.is("objects have room", true, size[0] < MOST_OBJECTS / 10);
        Check.is("elements have room", true, size[1] < MOST_ELEMENTS / 5);
        for (int i = 0; i < 400; i++) {
            int ticksThen = 48;
            Check.is("no exception past the end", "" + (ticks + 48 * (i + 1)), Check.answer(() -> x.pass(ticksThen)));
        }
        Check.is("no exception past the end", true, Check.answer(() -> x.isSound()) != null);
        int last = x.entries() - 1;
        Check.is("no exception past the end", false, Check.answer(() -> x.entryAt(last)).contains("throws"));
        Check.end();
    }

    /** 12 carriers were added, went in in the tick 0, and then came out and went in in each tick. */
    private static void entriesByTicks(Tubepost x, int entries) {
        boolean wrong = false;
        for (int i = 0; i < entries && !wrong; i++) {
            int tick = i < 24 ? 0 : i / 24;
            char letter = i < 12 ? 'a' : i < 24 || i % 24 >= 12 ? 'i' : 'o';
            wrong = x.entryAt(i) != letter || x.entryOf(i, 't') != tick;
        }
        Check.is("each entry is kept as it was written", false, wrong);
        Check.throwsIt(x, "beyond the last entry", IndexOutOfBoundsException.class, () -> x.entryAt(entries));
    }

    /**
     * Six stations with two tubes of one cell to the next one each, and two stations that are never
     * reached, so that each of twelve carriers comes out and goes in in each tick.
     */
    private static Tubepost twelveInARing() {
        Tubepost x = Nets.stations(8, 3);
        for (int i = 0; i < 12; i++) {
            x.tube(i % 6, (i % 6 + 1) % 6, 1);
            x.blow(i, 's');
            x.setGap(i, 0);
        }
        x.tube(0, 6, 1);
        x.tube(0, 7, 1);
        for (int i = 0; i < 12; i++) {
            x.setWay(i % 6, 6 + i / 6, i);
            x.carrier(i % 6);
            x.dial(i, 6 + i / 6);
        }
        return x;
    }
}
