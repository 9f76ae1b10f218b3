/** Promises 1 to 12: stations, tubes, ways and air. */
public final class NetTest {
    private static final Class<IndexOutOfBoundsException> OUT = IndexOutOfBoundsException.class;
    private static final Class<IllegalArgumentException> BAD = IllegalArgumentException.class;
    private static final Class<IllegalStateException> NOT_NOW = IllegalStateException.class;
    private static final Class<java.util.NoSuchElementException> NONE = java.util.NoSuchElementException.class;

    private NetTest() {
    }

    public static void main(String[] args) {
        newObject();
        station();
        clerks();
        setHours();
        hoursInTicks();
        tube();
        tubeCells();
        blow();
        blowWithCarrier();
        setTube();
        setGap();
        gapInTicks();
        setPower();
        setWay();
        wayOf();
        wayOfByFewest();
        draught();
        airCalls();
        airIsUsedAndLost();
        Check.end();
    }

    private static void newObject() {
        Tubepost x = new Tubepost();
        Check.reads(x, "new entries()", 0, () -> x.entries());
        Check.reads(x, "new earned()", 0L, () -> x.earned());
        Check.reads(x, "new isSound()", true, () -> x.isSound());
        Check.reads(x, "new air(r)", 100, () -> x.air('r'));
        Check.throwsIt(x, "new setHours", OUT, () -> x.setHours(0, 0, 24));
        Check.throwsIt(x, "new carrier", OUT, () -> x.carrier(0));
        Check.is("new pass(1)", 1, x.pass(1));
        Check.is("a new object shares nothing", 1, new Tubepost().pass(1));
    }

    private static void station() {
        Tubepost x = new Tubepost();
        for (int clerk : new int[] {0, 4, -1, Integer.MIN_VALUE, Integer.MAX_VALUE}) {
            Check.throwsIt(x, "station(" + clerk + ")", BAD, () -> x.station(clerk));
        }
        for (int i = 0; i < 8; i++) {
            Check.is("station number", i, x.station(i % 3 + 1));
        }
        Check.throwsIt(x, "ninth station", NOT_NOW, () -> x.station(1));
        Check.throwsIt(x, "ninth station, bad clerk", BAD, () -> x.station(0));
        Check.is("no carriers yet", 0, x.entries());
    }

    /** A clerk of 1 to 3 empties so many carriers in a tick. */
    private static void clerks() {
        for (int clerk = 1; clerk <= 3; clerk++) {
            Tubepost x = Nets.stations(1, clerk);
            for (int i = 0; i < 5; i++) {
                x.carrier(0);
                x.dial(i, 0);
            }
            x.pass(1);
            Check.is("things in a tick of clerk " + clerk, 5 + clerk, x.entries());
            x.pass(4);
            Check.is("things in all", 10, x.entries());
        }
    }

    private static void setHours() {
        Tubepost x = Nets.stations(2, 1);
        Check.is("first hour at first", 0, x.setHours(1, 7, 8));
        Check.is("first hour then", 7, x.setHours(1, 0, 24));
        Check.is("hours to the end", 0, x.setHours(1, 23, 24));
        Check.is("hours of its own", 0, x.setHours(0, 3, 24));
        int[][] wrong = {{-1, 5}, {24, 25}, {5, 5}, {5, 4}, {0, 25}, {0, 0}, {23, 25}, {24, 24},
            {Integer.MIN_VALUE, 1}, {0, Integer.MAX_VALUE}};
        for (int[] w : wrong) {
            Check.throwsIt(x, "setHours(0, " + w[0] + ", " + w[1] + ")", BAD, () -> x.setHours(0, w[0], w[1]));
            Check.throwsIt(x, "setHours of no station", OUT, () -> x.setHours(2, w[0], w[1]));
        }
        Check.throwsIt(x, "setHours(-1)", OUT, () -> x.setHours(-1, 0, 24));
    }

    /** Open from the first hour on, until before the second one, each 24 ticks. */
    private static void hoursInTicks() {
        Tubepost x = Nets.stations(1, 1);
        x.setHours(0, 2, 4);
        for (int i = 0; i < 5; i++) {
            x.carrier(0);
            x.dial(i, 0);
        }
        x.pass(48);
        x.pass(4);
        Check.is("clerk's ticks", "a0@0:0 a1@0:0 a2@0:0 a3@0:0 a4@0:0 e0@2:0 e1@3:0 e2@26:0 e3@27:0 e4@50:0",
                Nets.log(x));
    }

    private static void tube() {
        Tubepost x = Nets.stations(3, 1);
        Check.throwsIt(x, "tube(3, 0)", OUT, () -> x.tube(3, 0, 1));
        Check.throwsIt(x, "tube(0, 3)", OUT, () -> x.tube(0, 3, 1));
        Check.throwsIt(x, "tube(-1, -1, 0)", OUT, () -> x.tube(-1, -1, 0));
        Check.throwsIt(x, "tube(0, -1)", OUT, () -> x.tube(0, -1, 1));
        Check.throwsIt(x, "tube(1, 1)", BAD, () -> x.tube(1, 1, 1));
        Check.throwsIt(x, "tube of 0 cells", BAD, () -> x.tube(0, 1, 0));
        Check.throwsIt(x, "tube of 13 cells", BAD, () -> x.tube(0, 1, 13));
        for (int i = 0; i < 14; i++) {
            Check.is("tube number", i, x.tube(i % 3, (i + 1) % 3, i % 12 + 1));
        }
        Check.throwsIt(x, "tube 15", NOT_NOW, () -> x.tube(0, 1, 1));
        Check.throwsIt(x, "tube 15, same stations", BAD, () -> x.tube(0, 0, 1));
        Check.throwsIt(x, "tube 15, no cells", BAD, () -> x.tube(0, 1, 0));
        Check.throwsIt(x, "tube 15, no station", OUT, () -> x.tube(0, 9, 1));
    }

    private static void tubeCells() {
        for (int cells = 1; cells <= 12; cells++) {
            Tubepost x = Nets.pair(1, cells);
            int last = cells;
            Check.is("last cell dug", false, x.dig(0, last - 1));
            Check.throwsIt(x, "beyond the last cell", OUT, () -> x.dig(0, last));
            x.carrier(0);
            x.dial(0, 1);
            x.pass(1);
            Check.is("in the first cell", 100, x.placeOf(0));
            x.pass(1);
            Check.is("a tick on", cells < 2 ? 1 : cells == 2 ? 1 : 102, x.placeOf(0));
            x.pass((cells + 1) / 2);
            Check.is("out of " + cells, 1, x.placeOf(0));
            Check.is("cells are counted by wear", cells - 1, x.wear(0, 0));
        }
    }

    private static void blow() {
        Tubepost x = Nets.stations(2, 1);
        Check.throwsIt(x, "blow(0)", OUT, () -> x.blow(0, 's'));
        Check.throwsIt(x, "blow(0, x)", OUT, () -> x.blow(0, 'x'));
        x.tube(0, 1, 3);
        Check.throwsIt(x, "blow(-1)", OUT, () -> x.blow(-1, 's'));
        Check.throwsIt(x, "blow x", BAD, () -> x.blow(0, 'x'));
        Check.throwsIt(x, "blow S", BAD, () -> x.blow(0, 'S'));
        Check.is("blown at first", '-', x.blow(0, '-'));
        Check.is("blown not at all", '-', x.blow(0, 's'));
        Check.is("blown to the second", 's', x.blow(0, 'f'));
        Check.is("blown to the first", 'f', x.blow(0, 'f'));
        x.carrier(1);
        x.dial(0, 0);
        x.pass(1);
        Check.is("in from the second station", 102, x.placeOf(0));
        x.pass(1);
        Check.is("to the first one", 100, x.placeOf(0));
        x.pass(1);
        Check.is("out at the first one", 0, x.placeOf(0));
    }

    private static void blowWithCarrier() {
        Tubepost x = Nets.pair(1, 3);
        x.carrier(0);
        x.dial(0, 1);
        x.pass(1);
        Check.throwsIt(x, "blow back", NOT_NOW, () -> x.blow(0, 'f'));
        Check.throwsIt(x, "blow off", NOT_NOW, () -> x.blow(0, '-'));
        Check.throwsIt(x, "blow x with a carrier", BAD, () -> x.blow(0, 'x'));
        Check.reads(x, "blow on", 's', () -> x.blow(0, 's'));
        x.pass(2);
        Check.is("blow back then", 's', x.blow(0, 'f'));
        x.blow(0, 's');
        x.dial(0, 0);
        Check.is("not blown away from there", 'w', x.why(0));
        x.blow(0, 'f');
        Check.is("it can leave then", '-', x.why(0));
    }

    private static void setTube() {
        Tubepost x = Nets.pair(1, 3);
        Check.is("leak and water at first", 0, x.setTube(0, 9, 0));
        Check.is("leak", 90, x.setTube(0, 0, 9));
        Check.is("water", 9, x.setTube(0, 3, 4));
        Check.is("both", 34, x.setTube(0, 0, 0));
        int[][] wrong = {{-1, 0}, {10, 0}, {0, -1}, {0, 10}};
        for (int[] w : wrong) {
            Check.throwsIt(x, "setTube(0, " + w[0] + ", " + w[1] + ")", BAD, () -> x.setTube(0, w[0], w[1]));
            Check.throwsIt(x, "setTube of no tube", OUT, () -> x.setTube(1, w[0], w[1]));
        }
        Check.throwsIt(x, "setTube(-1)", OUT, () -> x.setTube(-1, 0, 0));
    }

    private static void setGap() {
        Tubepost x = Nets.pair(1, 3);
        Check.is("gap at first", 2, x.setGap(0, 20));
        Check.is("gap then", 20, x.setGap(0, 0));
        Check.is("gap 0", 0, x.setGap(0, 1));
        Check.throwsIt(x, "gap -1", BAD, () -> x.setGap(0, -1));
        Check.throwsIt(x, "gap 21", BAD, () -> x.setGap(0, 21));
        Check.throwsIt(x, "gap 21 of no tube", OUT, () -> x.setGap(1, 21));
        Check.throwsIt(x, "gap of no tube", OUT, () -> x.setGap(-1, 1));
    }

    /** So many ticks have gone since the last carrier went in; 1 at least, while it is in the first cell. */
    private static void gapInTicks() {
        int[][] gapsAndTicks = {{0, 1}, {1, 1}, {2, 2}, {3, 3}, {20, 20}};
        for (int[] g : gapsAndTicks) {
            Tubepost x = Nets.pair(3, 12);
            x.setGap(0, g[0]);
            for (int i = 0; i < 2; i++) {
                x.carrier(0);
                x.dial(i, 1);
            }
            x.pass(g[1]);
            Check.is("second waits, gap " + g[0], 0, x.placeOf(1));
            x.pass(1);
            Check.is("second is in, gap " + g[0], 100, x.placeOf(1));
        }
        Tubepost y = Nets.pair(1, 12);
        y.setGap(0, 20);
        y.carrier(0);
        y.dial(0, 1);
        Check.is("the first one needs no gap", '-', y.why(0));
    }

    private static void setPower() {
        Tubepost x = new Tubepost();
        Check.is("power at first", 20, x.setPower(200));
        Check.is("power then", 200, x.setPower(0));
        Check.is("no power", 0, x.setPower(7));
        Check.throwsIt(x, "power -1", BAD, () -> x.setPower(-1));
        Check.throwsIt(x, "power 201", BAD, () -> x.setPower(201));
        x.pass(3);
        Check.is("made", 21, x.air('m'));
    }

    private static void setWay() {
        Tubepost x = Nets.stations(3, 1);
        x.tube(0, 1, 1);
        x.tube(1, 2, 1);
        Check.throwsIt(x, "setWay(3, 0)", OUT, () -> x.setWay(3, 0, 0));
        Check.throwsIt(x, "setWay(0, 3)", OUT, () -> x.setWay(0, 3, 0));
        Check.throwsIt(x, "setWay(-1, -1)", OUT, () -> x.setWay(-1, -1, 0));
        Check.throwsIt(x, "setWay by tube 2", OUT, () -> x.setWay(0, 1, 2));
        Check.throwsIt(x, "setWay by tube -2", OUT, () -> x.setWay(0, 1, -2));
        Check.throwsIt(x, "setWay(0, 0, 2)", OUT, () -> x.setWay(0, 0, 2));
        Check.throwsIt(x, "setWay(0, 0, 0)", BAD, () -> x.setWay(0, 0, 0));
        Check.throwsIt(x, "setWay(0, 0, -1)", BAD, () -> x.setWay(0, 0, -1));
        Check.is("none told", -1, x.setWay(0, 2, 1));
        Check.is("1 told", 1, x.setWay(0, 2, 0));
        Check.is("0 told", 0, x.setWay(0, 2, -1));
        Check.is("none told again", -1, x.setWay(0, 2, -1));
        Check.is("told for this direction alone", -1, x.setWay(2, 0, 1));
    }

    private static void wayOf() {
        Tubepost x = Nets.stations(4, 1);
        x.tube(0, 1, 1);
        x.tube(1, 2, 1);
        x.tube(0, 1, 1);
        Check.throwsIt(x, "wayOf(4, 0)", OUT, () -> x.wayOf(4, 0));
        Check.throwsIt(x, "wayOf(0, 4)", OUT, () -> x.wayOf(0, 4));
        Check.throwsIt(x, "wayOf(4, 4)", OUT, () -> x.wayOf(4, 4));
        Check.throwsIt(x, "wayOf(-1, 0)", OUT, () -> x.wayOf(-1, 0));
        Check.throwsIt(x, "wayOf(1, 1)", NONE, () -> x.wayOf(1, 1));
        Check.throwsIt(x, "wayOf(0, 3)", NONE, () -> x.wayOf(0, 3));
        Check.throwsIt(x, "wayOf(3, 0)", NONE, () -> x.wayOf(3, 0));
        Check.reads(x, "wayOf(0, 2)", 0, () -> x.wayOf(0, 2));
        x.setWay(0, 2, 2);
        Check.reads(x, "wayOf(0, 2) told", 2, () -> x.wayOf(0, 2));
        Check.reads(x, "wayOf(0, 1) not told", 0, () -> x.wayOf(0, 1));
        Check.reads(x, "wayOf(2, 0) not told", 1, () -> x.wayOf(2, 0));
        x.setWay(0, 2, 1);
        Check.reads(x, "wayOf(0, 2) told a tube elsewhere", 0, () -> x.wayOf(0, 2));
        x.setWay(1, 0, 1);
        Check.reads(x, "wayOf(1, 0) told the other direction", 1, () -> x.wayOf(1, 0));
        x.setWay(1, 0, -1);
        Check.reads(x, "wayOf(1, 0) told no more", 0, () -> x.wayOf(1, 0));
        x.setWay(0, 3, 2);
        Check.reads(x, "wayOf(0, 3) told", 2, () -> x.wayOf(0, 3));
    }

    private static void wayOfByFewest() {
        Tubepost x = Nets.stations(8, 1);
        x.tube(1, 0, 12);
        x.tube(2, 1, 12);
        x.tube(0, 3, 1);
        x.tube(3, 2, 1);
        x.tube(4, 0, 1);
        x.tube(5, 6, 1);
        x.tube(7, 6, 1);
        Check.is("lowest next tube of equals", 0, x.wayOf(0, 2));
        Check.is("lowest next tube back", 1, x.wayOf(2, 0));
        Check.is("the only one", 4, x.wayOf(4, 2));
        Check.is("two of 1", 0, x.wayOf(1, 3));
        Check.is("two of 3", 2, x.wayOf(3, 1));
        Check.is("the other part", 6, x.wayOf(7, 5));
        Check.throwsIt(x, "the parts are apart", NONE, () -> x.wayOf(7, 4));
        x.tube(4, 7, 1);
        Check.is("parts joined", 7, x.wayOf(4, 5));
        Check.is("parts joined, from afar", 1, x.wayOf(2, 5));
        Check.is("parts joined, back", 5, x.wayOf(5, 2));
        x.tube(2, 6, 1);
        Check.is("a shorter way", 8, x.wayOf(2, 5));
        Check.is("equal ways, lowest next", 0, x.wayOf(0, 6));
        x.tube(2, 0, 12);
        Check.is("a direct tube, however long", 9, x.wayOf(0, 2));
        Check.is("a direct tube back", 9, x.wayOf(2, 0));
        x.tube(2, 0, 1);
        Check.is("the lowest of two direct ones", 9, x.wayOf(0, 2));
    }

    private static void draught() {
        Tubepost x = Nets.stations(2, 1);
        Check.throwsIt(x, "draught(0)", OUT, () -> x.draught(0));
        x.tube(0, 1, 12);
        x.tube(0, 1, 1);
        Check.throwsIt(x, "draught(-1)", OUT, () -> x.draught(-1));
        Check.throwsIt(x, "draught(2)", OUT, () -> x.draught(2));
        x.setPower(0);
        x.blow(0, 'f');
        x.setTube(0, 9, 9);
        Check.reads(x, "draught before a tick", 0, () -> x.draught(0));
        x.pass(4);
        Check.reads(x, "draught of 23 of 31", 2, () -> x.draught(0));
        Check.reads(x, "draught of a tube not blown", 0, () -> x.draught(1));
        Check.reads(x, "left", 8, () -> x.air('r'));
        x.pass(1);
        Check.reads(x, "draught of 23 of 8", 1, () -> x.draught(0));
        Check.reads(x, "left", 7, () -> x.air('r'));
        x.blow(1, 's');
        Check.is("draught of the last tick, not of the way", 0, x.draught(1));
        x.pass(1);
        Check.is("a small one of 6", 2, x.draught(1));
        Check.is("left", 5, x.air('r'));
        x.pass(2);
        Check.is("left", 1, x.air('r'));
        x.pass(1);
        Check.is("the last air for the lowest tube", 1, x.draught(0));
        Check.is("none for the next", 0, x.draught(1));
        x.pass(1);
        Check.is("none at all", 0, x.draught(0));
        Check.is("used", 14 * 4 + 8, x.air('u'));
        Check.is("lost", 36, x.air('l'));
        Check.is("made", 0, x.air('m'));
        x.setPower(23);
        x.pass(1);
        Check.is("just enough", 2, x.draught(0));
        x.blow(0, '-');
        Check.is("draught of the last tick still", 2, x.draught(0));
        x.pass(1);
        Check.is("blown no more", 0, x.draught(0));
        Check.is("the next has air", 2, x.draught(1));
    }

    private static void airCalls() {
        Tubepost x = new Tubepost();
        for (char what : new char[] {'x', 'R', '-', 0, 255, '\uffff'}) {
            Check.throwsIt(x, "air(" + (int) what + ")", BAD, () -> x.air(what));
        }
        x.setPower(199);
        x.pass(1);
        Check.reads(x, "receiver", 299, () -> x.air('r'));
        x.pass(1);
        Check.reads(x, "receiver", 498, () -> x.air('r'));
        x.pass(1);
        Check.reads(x, "full receiver", 500, () -> x.air('r'));
        Check.reads(x, "made up to what it holds", 400, () -> x.air('m'));
        x.pass(40);
        Check.reads(x, "full receiver", 500, () -> x.air('r'));
        Check.reads(x, "made no more", 400, () -> x.air('m'));
        Check.reads(x, "used", 0, () -> x.air('u'));
        Check.reads(x, "lost", 0, () -> x.air('l'));
    }

    /** 1, leak, water and a third of the cells, rounded down. */
    private static void airIsUsedAndLost() {
        int[] thirds = {0, 0, 1, 1, 1, 2, 2, 2, 3, 3, 3, 4};
        for (int cells = 1; cells <= 12; cells++) {
            Tubepost x = Nets.pair(1, cells);
            x.setTube(0, 4, 7);
            x.pass(1);
            int used = 1 + 7 + thirds[cells - 1];
            Check.is("used by " + cells, used, x.air('u'));
            Check.is("lost by " + cells, 4, x.air('l'));
            Check.is("left by " + cells, 120 - used - 4, x.air('r'));
            Check.is("made", 20, x.air('m'));
        }
        Tubepost y = Nets.pair(1, 1);
        y.setPower(0);
        y.setTube(0, 9, 9);
        y.pass(5);
        Check.is("left of 100", 5, y.air('r'));
        y.pass(1);
        Check.is("a draught of 1 loses nothing", 45, y.air('l'));
        Check.is("a draught of 1 uses 1", 51, y.air('u'));
    }
}
