/** The run with the most entries in the log, how much room it takes, and calls past the 512th one. */
public final class LongRunTest {
    private static final long MOST_OBJECTS = 600_000;
    private static final long MOST_ELEMENTS = 7_300_000;

    private LongRunTest() {
    }

    public static void main(String[] args) {
        Tubepost x = twelveInARing();
        int calls = 82;
        int ticks = 0;
        for (; calls < 508; calls++) {
            ticks += 48;
            Check.is("tick", ticks, x.pass(48));
        }
        Check.is("sound", true, x.isSound());
        int entries = x.entries();
        Check.is("entries", 12 + 24 * ticks - 12, entries);
        Check.is("last entry", "i" + (ticks - 1), "" + x.entryAt(entries - 1) + x.entryOf(entries - 1, 't'));
        Check.is("an entry far on", 20_000, x.entryOf(12 + 24 * 20_000, 't'));
        Check.is("an entry early", "a11", "" + x.entryAt(11) + x.entryOf(11, 'c'));
        long[] size = State.sizeOf(x);
        System.out.println(entries + " entries, " + size[0] + " objects, " + size[1] + " fields and elements");
        Check.is("objects have room", true, size[0] < MOST_OBJECTS / 10);
        Check.is("elements have room", true, size[1] < MOST_ELEMENTS / 5);
        for (int i = 0; i < 400; i++) {
            int ticksThen = 48;
            Check.is("no exception past the end", "" + (ticks + 48 * (i + 1)), Check.answer(() -> x.pass(ticksThen)));
        }
        Check.is("no exception past the end", true, Check.answer(() -> x.isSound()) != null);
        int last = x.entries() - 1;
        Check.is("no exception past the end", false, Check.answer(() -> x.entryAt(last)).contains("throws"));
        Check.end();
    }

    /**
     * Six stations with two tubes of one cell to the next one each, and two stations that are never
     * reached, so that each of twelve carriers comes out and goes in in each tick.
     */
    private static Tubepost twelveInARing() {
        Tubepost x = Nets.stations(8, 3);
        for (int i = 0; i < 12; i++) {
            x.tube(i % 6, (i % 6 + 1) % 6, 1);
            x.blow(i, 's');
            x.setGap(i, 0);
        }
        x.tube(0, 6, 1);
        x.tube(0, 7, 1);
        for (int i = 0; i < 12; i++) {
            x.setWay(i % 6, 6 + i / 6, i);
            x.carrier(i % 6);
            x.dial(i, 6 + i / 6);
        }
        return x;
    }
}
