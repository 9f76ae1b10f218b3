/** Promises 23 to 27, 35 and 36: items, stamps, lateness and what is earned. */
public final class ItemTest {
    private static final Class<IndexOutOfBoundsException> OUT = IndexOutOfBoundsException.class;
    private static final Class<IllegalArgumentException> BAD = IllegalArgumentException.class;
    private static final Class<IllegalStateException> NOT_NOW = IllegalStateException.class;
    private static final Class<java.util.NoSuchElementException> NONE = java.util.NoSuchElementException.class;
    private static final Class<ArithmeticException> NO_MEAN = ArithmeticException.class;

    private ItemTest() {
    }

    public static void main(String[] args) {
        prices();
        acceptWrongly();
        acceptInHours();
        sixtyItems();
        itemState();
        stamp();
        lateness();
        claim();
        earned();
        lateShare();
        meanTime();
        Check.end();
    }

    private static void prices() {
        Tubepost x = Nets.stations(4, 1);
        x.tube(1, 0, 12);
        x.tube(1, 2, 12);
        x.tube(3, 2, 12);
        int[][] due = {{0, 1, 0, 1, 3}, {0, 1, 0, 9, 11}, {0, 2, 0, 1, 4}, {0, 2, 0, 4, 10}, {0, 3, 0, 9, 29},
            {3, 0, 1, 9, 58}, {2, 0, 1, 6, 28}, {0, 1, 1, 1, 6}, {0, 3, 2, 9, 0}, {1, 0, 2, 1, 0}, {3, 1, 0, 5, 12}};
        long sum = 0;
        for (int[] d : due) {
            Check.is("price from " + d[0] + " to " + d[1] + " rank " + d[2] + " weight " + d[3], d[4],
                    x.accept(d[0], d[1], d[2], d[3]));
            sum += d[4];
            Check.is("earned", sum, x.earned());
        }
        x.tube(0, 3, 1);
        Check.is("price by the new tube", 11, x.accept(3, 0, 0, 9));
        x.setWay(0, 3, 0);
        Check.is("price by the fewest tubes, not by the way told", 11, x.accept(0, 3, 0, 9));
    }

    private static void acceptWrongly() {
        Tubepost x = Nets.stations(3, 1);
        x.tube(0, 1, 3);
        x.setHours(0, 1, 24);
        int[][] nowhere = {{3, 0}, {0, 3}, {-1, 0}, {0, -1}, {3, 3}, {Integer.MAX_VALUE, Integer.MIN_VALUE}};
        for (int[] n : nowhere) {
            Check.throwsIt(x, "accept nowhere", OUT, () -> x.accept(n[0], n[1], 0, 1));
            Check.throwsIt(x, "accept nowhere, and wrongly", OUT, () -> x.accept(n[0], n[1], 3, 10));
        }
        int[][] wrong = {{0, 0, 0, 1}, {0, 1, -1, 1}, {0, 1, 3, 1}, {0, 1, 0, 0}, {0, 1, 0, 10}, {0, 1, 0, -1},
            {0, 2, 3, 1}, {2, 2, 0, 1}, {1, 0, 0, 10}};
        for (int[] w : wrong) {
            Check.throwsIt(x, "accept wrongly", BAD, () -> x.accept(w[0], w[1], w[2], w[3]));
        }
        Check.throwsIt(x, "accept apart, closed", NONE, () -> x.accept(0, 2, 0, 1));
        Check.throwsIt(x, "accept apart", NONE, () -> x.accept(2, 0, 0, 1));
        x.setWay(1, 2, 0);
        Check.throwsIt(x, "accept apart, a tube told", NONE, () -> x.accept(1, 2, 0, 1));
        Check.throwsIt(x, "accept closed", NOT_NOW, () -> x.accept(0, 1, 0, 1));
        Check.is("accept at the open one", 3, x.accept(1, 0, 0, 1));
        Check.throwsIt(x, "item -1", OUT, () -> x.itemState(-1));
        Check.throwsIt(x, "item 1", OUT, () -> x.itemState(1));
    }

    /** The tick that comes next counts, and of the station where the item is. */
    private static void acceptInHours() {
        Tubepost x = Nets.pair(1, 3);
        x.setHours(0, 2, 3);
        x.setHours(1, 0, 1);
        x.pass(1);
        Check.throwsIt(x, "before the hours", NOT_NOW, () -> x.accept(0, 1, 0, 1));
        x.pass(1);
        Check.is("in the hours", 3, x.accept(0, 1, 0, 1));
        Check.is("first stamp", 2, x.stamp(0, false));
        x.pass(1);
        Check.throwsIt(x, "behind the hours", NOT_NOW, () -> x.accept(0, 1, 0, 1));
        x.pass(23);
        Check.is("the next day", 3, x.accept(0, 1, 0, 1));
        Check.is("first stamp", 26, x.stamp(1, false));
    }

    private static void sixtyItems() {
        Tubepost x = Nets.stations(3, 1);
        x.tube(0, 1, 3);
        for (int i = 0; i < 60; i++) {
            Check.is("price", 3, x.accept(i % 2, 1 - i % 2, 0, 1));
        }
        Check.is("the last item", 'w', x.itemState(59));
        Check.throwsIt(x, "item 60", OUT, () -> x.itemState(60));
        Check.throwsIt(x, "item 61", NOT_NOW, () -> x.accept(0, 1, 0, 1));
        Check.throwsIt(x, "item 61, apart", NONE, () -> x.accept(0, 2, 0, 1));
        Check.throwsIt(x, "item 61, bad", BAD, () -> x.accept(0, 2, 0, 0));
        Check.is("earned", 180L, x.earned());
    }

    private static void itemState() {
        Tubepost x = Nets.pair(1, 3);
        Check.throwsIt(x, "itemState(0)", OUT, () -> x.itemState(0));
        x.accept(0, 1, 0, 1);
        x.accept(1, 0, 0, 1);
        Check.throwsIt(x, "itemState(-1)", OUT, () -> x.itemState(-1));
        Check.reads(x, "waits", 'w', () -> x.itemState(0));
        x.carrier(0);
        x.pass(1);
        Check.reads(x, "in a carrier at a station", 'c', () -> x.itemState(0));
        x.pass(2);
        Check.reads(x, "in a carrier in a tube", 'c', () -> x.itemState(0));
        x.pass(1);
        Check.reads(x, "delivered", 'd', () -> x.itemState(0));
        Check.reads(x, "packed behind it", 'w', () -> x.itemState(1));
        x.pass(1);
        Check.reads(x, "packed then", 'c', () -> x.itemState(1));
    }

    private static void stamp() {
        Tubepost x = Nets.pair(1, 3);
        Check.throwsIt(x, "stamp(0)", OUT, () -> x.stamp(0, false));
        Check.throwsIt(x, "stamp(0), second", OUT, () -> x.stamp(0, true));
        x.pass(5);
        x.accept(0, 1, 0, 1);
        Check.throwsIt(x, "stamp(-1)", OUT, () -> x.stamp(-1, false));
        Check.throwsIt(x, "stamp(1)", OUT, () -> x.stamp(1, true));
        Check.reads(x, "first stamp", 5, () -> x.stamp(0, false));
        Check.throwsIt(x, "no second stamp", NONE, () -> x.stamp(0, true));
        x.carrier(0);
        x.pass(3);
        Check.throwsIt(x, "no second stamp in a carrier", NONE, () -> x.stamp(0, true));
        x.pass(1);
        Check.reads(x, "second stamp", 8, () -> x.stamp(0, true));
        Check.reads(x, "first stamp still", 5, () -> x.stamp(0, false));
    }

    /** An item that is delivered in the given tick, since its station is open in that one alone. */
    private static Tubepost deliveredIn(int tick, int rank, int weight) {
        Tubepost x = Nets.pair(1, 1);
        x.setHours(1, tick, tick + 1);
        x.carrier(0);
        x.accept(0, 1, rank, weight);
        x.pass(tick + 1);
        Check.is("stamp", tick, x.stamp(0, true));
        return x;
    }

    private static void lateness() {
        int[][] rankAndLast = {{0, 19}, {1, 9}, {2, 5}};
        for (int[] r : rankAndLast) {
            Tubepost x = deliveredIn(r[1], r[0], 1);
            Check.is("share in time", 0f, x.lateShare());
            Check.throwsIt(x, "in time, rank " + r[0], NOT_NOW, () -> x.claim(0));
            Tubepost y = deliveredIn(r[1] + 1, r[0], 1);
            Check.is("share late", 1f, y.lateShare());
            Check.is("late, rank " + r[0], r[0] == 0 ? 2 : r[0] == 1 ? 3 : 0, y.claim(0));
            Check.throwsIt(y, "claimed", NOT_NOW, () -> y.claim(0));
        }
        latenessFromTheFirstStamp();
    }

    private static void latenessFromTheFirstStamp() {
        Tubepost x = Nets.pair(1, 1);
        x.setHours(1, 18, 19);
        x.pass(12);
        x.accept(0, 1, 2, 1);
        x.pass(1);
        x.accept(0, 1, 2, 1);
        x.carrier(0);
        x.pass(6);
        Check.is("both delivered", "18 18", x.stamp(0, true) + " " + x.stamp(1, true));
        Check.is("from 12 to 18", 0, x.claim(0));
        Check.throwsIt(x, "from 13 to 18", NOT_NOW, () -> x.claim(1));
        Check.is("one of two", 0.5f, x.lateShare());
    }

    private static void claim() {
        Tubepost x = Nets.pair(1, 1);
        Check.throwsIt(x, "claim(0)", OUT, () -> x.claim(0));
        x.accept(0, 1, 0, 3);
        x.setHours(1, 23, 24);
        Check.throwsIt(x, "claim(-1)", OUT, () -> x.claim(-1));
        Check.throwsIt(x, "claim(1)", OUT, () -> x.claim(1));
        Check.throwsIt(x, "claim of a waiting one", NONE, () -> x.claim(0));
        x.carrier(0);
        x.pass(23);
        Check.throwsIt(x, "claim of a carried one, late already", NONE, () -> x.claim(0));
        x.pass(1);
        Check.is("earned", 5L, x.earned());
        Check.is("half, rounded up", 3, x.claim(0));
        Check.is("earned less", 2L, x.earned());
        Check.throwsIt(x, "claimed", NOT_NOW, () -> x.claim(0));
        Check.is("even price", 2, deliveredIn(21, 0, 2).claim(0));
        Check.is("twice a price", 11, deliveredIn(21, 1, 9).claim(0));
        Check.is("nothing for nothing", 0, deliveredIn(21, 2, 9).claim(0));
    }

    private static void earned() {
        Tubepost x = Nets.pair(1, 3);
        x.dig(0, 0);
        Check.reads(x, "spent on digging", -10L, () -> x.earned());
        x.accept(0, 1, 1, 9);
        Check.reads(x, "earned", 12L, () -> x.earned());
        x.pass(48);
        Check.reads(x, "earned, though not delivered", 12L, () -> x.earned());
        x.carrier(0);
        x.pass(6);
        x.claim(0);
        Check.reads(x, "paid back", 1L, () -> x.earned());
    }

    private static void lateShare() {
        Tubepost x = Nets.pair(1, 1);
        Check.throwsIt(x, "share of none", NO_MEAN, () -> x.lateShare());
        x.setGap(0, 0);
        x.accept(0, 1, 0, 1);
        x.carrier(0);
        Check.throwsIt(x, "share of none delivered", NO_MEAN, () -> x.lateShare());
        x.pass(3);
        Check.reads(x, "none late", 0f, () -> x.lateShare());
        x.accept(0, 1, 2, 4);
        x.accept(0, 1, 0, 6);
        x.pass(30);
        Check.reads(x, "late ones that wait do not count", 0f, () -> x.lateShare());
        x.carrier(0);
        x.pass(10);
        Check.reads(x, "of three with one kept back by weight", 0.5f, () -> x.lateShare());
        x.carrier(0);
        x.pass(10);
        Check.reads(x, "two of three", 2f / 3f, () -> x.lateShare());
        x.claim(1);
        Check.reads(x, "claimed ones count", 2f / 3f, () -> x.lateShare());
    }

    private static void meanTime() {
        Tubepost x = Nets.pair(1, 1);
        Check.throwsIt(x, "mean of none", NO_MEAN, () -> x.meanTime());
        x.pass(7);
        x.accept(0, 1, 0, 1);
        x.carrier(0);
        Check.throwsIt(x, "mean of none delivered", NO_MEAN, () -> x.meanTime());
        x.pass(3);
        Check.reads(x, "mean of one", 2.0, () -> x.meanTime());
        x.accept(0, 1, 0, 1);
        Check.reads(x, "one that waits does not count", 2.0, () -> x.meanTime());
        x.pass(1);
        x.carrier(0);
        x.pass(3);
        Check.reads(x, "mean of two", 2.5, () -> x.meanTime());
        x.accept(0, 1, 0, 1);
        x.carrier(0);
        x.pass(3);
        Check.reads(x, "mean of three", 7.0 / 3.0, () -> x.meanTime());
    }
}
