/** Promises 13 to 22, and how carriers move and clerks work. */
public final class CarrierTest {
    private static final Class<IndexOutOfBoundsException> OUT = IndexOutOfBoundsException.class;
    private static final Class<IllegalArgumentException> BAD = IllegalArgumentException.class;
    private static final Class<IllegalStateException> NOT_NOW = IllegalStateException.class;

    private CarrierTest() {
    }

    public static void main(String[] args) {
        carrier();
        dial();
        grease();
        wear();
        order();
        places();
        dialAndWeight();
        why();
        whyOfTheGap();
        speeds();
        speedAsItBegan();
        lowDraught();
        wearByCells();
        sticks();
        leavesWornOut();
        cannotPass();
        movesInAFile();
        clerkDoesTheFirstThing();
        clerkOfThree();
        emptiesTheLongestWait();
        emptiesWithoutItemsForHere();
        emptiesWhateverTheDial();
        sendsByRankThenWait();
        sendsTheFirstThatCan();
        packsByRankAndWeight();
        packsOnlyEmptyOnesWithoutDial();
        goesByTwoTubes();
        outBeforeIn();
        Check.end();
    }

    /** A carrier at station 0 with the dial to 1, worn and loaded as told, in a tube. */
    private static Tubepost sent(int cells, int worn, int weight) {
        Tubepost x = Nets.pair(3, cells);
        x.carrier(0);
        x.wear(0, worn);
        if (weight > 0) {
            x.accept(0, 1, 0, weight);
        } else {
            x.dial(0, 1);
        }
        x.pass(1);
        Check.is("sent", 100, x.placeOf(0));
        return x;
    }

    private static void carrier() {
        Tubepost x = Nets.stations(2, 1);
        Check.throwsIt(x, "carrier(2)", OUT, () -> x.carrier(2));
        Check.throwsIt(x, "carrier(-1)", OUT, () -> x.carrier(-1));
        for (int i = 0; i < 12; i++) {
            Check.is("carrier number", i, x.carrier(i % 2));
            Check.is("its place", i % 2, x.placeOf(i));
            Check.is("its dial", -1, x.dialOf(i));
            Check.is("its weight", 0, x.weightOf(i));
            Check.is("its wear", 0, x.wear(i, 0));
            Check.is("its entry", 'a', x.entryAt(i));
        }
        Check.throwsIt(x, "carrier 13", NOT_NOW, () -> x.carrier(0));
        Check.throwsIt(x, "carrier 13 nowhere", OUT, () -> x.carrier(2));
    }

    private static void dial() {
        Tubepost x = Nets.pair(1, 3);
        Check.throwsIt(x, "dial(0)", OUT, () -> x.dial(0, 0));
        x.carrier(0);
        Check.throwsIt(x, "dial(-1)", OUT, () -> x.dial(-1, 0));
        Check.throwsIt(x, "dial(1)", OUT, () -> x.dial(1, 0));
        Check.throwsIt(x, "dial to 2", OUT, () -> x.dial(0, 2));
        Check.throwsIt(x, "dial to -2", OUT, () -> x.dial(0, -2));
        Check.is("dial at first", -1, x.dial(0, 0));
        Check.is("dial then", 0, x.dial(0, -1));
        Check.is("dial to none", -1, x.dial(0, 1));
        x.pass(1);
        Check.throwsIt(x, "dial in a tube", NOT_NOW, () -> x.dial(0, 0));
        Check.throwsIt(x, "dial in a tube to none", NOT_NOW, () -> x.dial(0, -1));
        Check.throwsIt(x, "dial in a tube to 2", OUT, () -> x.dial(0, 2));
        x.pass(2);
        Check.is("dial at the other station", -1, x.dial(0, 0));
    }

    private static void grease() {
        Tubepost x = Nets.pair(1, 3);
        Check.throwsIt(x, "grease(0)", OUT, () -> x.grease(0));
        x.carrier(0);
        Check.throwsIt(x, "grease(-1)", OUT, () -> x.grease(-1));
        x.wear(0, 100);
        Check.is("greased", 100, x.grease(0));
        Check.is("greased again", 0, x.grease(0));
        x.wear(0, 40);
        x.dial(0, 1);
        x.pass(1);
        Check.throwsIt(x, "grease in a tube", NOT_NOW, () -> x.grease(0));
        Check.is("still worn", 40, x.wear(0, 0));
    }

    private static void wear() {
        Tubepost x = Nets.pair(1, 12);
        Check.throwsIt(x, "wear(0)", OUT, () -> x.wear(0, 0));
        Check.throwsIt(x, "wear(0, 101)", OUT, () -> x.wear(0, 101));
        x.carrier(0);
        Check.throwsIt(x, "wear -1", BAD, () -> x.wear(0, -1));
        Check.throwsIt(x, "wear 101", BAD, () -> x.wear(0, 101));
        Check.throwsIt(x, "wear of -1", OUT, () -> x.wear(-1, 0));
        Check.is("worn", 70, x.wear(0, 70));
        Check.is("worn more", 99, x.wear(0, 29));
        Check.is("worn by none", 99, x.wear(0, 0));
        Check.is("worn at most", 100, x.wear(0, 100));
        Check.is("worn at most", 100, x.wear(0, 1));
        x.grease(0);
        x.dial(0, 1);
        x.pass(2);
        Check.is("worn in a tube", 100, x.wear(0, 98));
        x.pass(5);
        Check.is("it sticks then", 102, x.placeOf(0));
    }

    private static void order() {
        Tubepost x = Nets.pair(3, 12);
        Check.throwsIt(x, "order(0)", OUT, () -> x.order(0));
        Check.throwsIt(x, "order(-1)", OUT, () -> x.order(-1));
        x.setGap(0, 9);
        for (int i = 0; i < 3; i++) {
            x.carrier(0);
            x.dial(i, 1);
        }
        Check.is("no order", false, x.order(2));
        Check.is("an order", true, x.order(2));
        Check.is("each has its own", false, x.order(0));
        x.pass(1);
        Check.is("the first one leaves", 100, x.placeOf(0));
        Check.is("its order was used up, though not needed", false, x.order(0));
        Check.is("an order in a tube", true, x.order(0));
        x.pass(1);
        Check.is("with an order, without the gap", 100, x.placeOf(2));
        Check.is("without one, with the gap", 0, x.placeOf(1));
        Check.is("the order was used up", false, x.order(2));
        x.pass(8);
        Check.is("the gap counts from the last one that went in", 0, x.placeOf(1));
        x.pass(1);
        Check.is("the gap has gone", 100, x.placeOf(1));
    }

    private static void places() {
        Tubepost x = Nets.stations(3, 1);
        x.tube(0, 1, 2);
        x.tube(1, 2, 4);
        x.blow(1, 's');
        Check.throwsIt(x, "placeOf(0)", OUT, () -> x.placeOf(0));
        Check.throwsIt(x, "placeByLog(0)", OUT, () -> x.placeByLog(0));
        x.carrier(1);
        Check.throwsIt(x, "placeOf(-1)", OUT, () -> x.placeOf(-1));
        Check.throwsIt(x, "placeByLog(-1)", OUT, () -> x.placeByLog(-1));
        Check.throwsIt(x, "placeByLog(1)", OUT, () -> x.placeByLog(1));
        Check.reads(x, "placeOf at a station", 1, () -> x.placeOf(0));
        Check.reads(x, "placeByLog at a station", 1, () -> x.placeByLog(0));
        x.dial(0, 2);
        x.pass(2);
        Check.reads(x, "placeOf in a tube", 202, () -> x.placeOf(0));
        Check.reads(x, "placeByLog in a tube", 200, () -> x.placeByLog(0));
        x.carrier(0);
        Check.reads(x, "placeByLog of each its own", 200, () -> x.placeByLog(0));
        Check.reads(x, "placeByLog of the next", 0, () -> x.placeByLog(1));
        x.wear(0, 100);
        x.dig(1, 2);
        Check.reads(x, "placeOf dug out", 1, () -> x.placeOf(0));
        Check.reads(x, "placeByLog dug out", 1, () -> x.placeByLog(0));
        x.pass(4);
        Check.reads(x, "placeOf beyond", 2, () -> x.placeOf(0));
        Check.reads(x, "placeByLog beyond", 2, () -> x.placeByLog(0));
    }

    private static void dialAndWeight() {
        Tubepost x = Nets.pair(1, 3);
        Check.throwsIt(x, "dialOf(0)", OUT, () -> x.dialOf(0));
        Check.throwsIt(x, "weightOf(0)", OUT, () -> x.weightOf(0));
        x.carrier(0);
        Check.throwsIt(x, "dialOf(-1)", OUT, () -> x.dialOf(-1));
        Check.throwsIt(x, "weightOf(-1)", OUT, () -> x.weightOf(-1));
        Check.throwsIt(x, "dialOf(1)", OUT, () -> x.dialOf(1));
        Check.throwsIt(x, "weightOf(1)", OUT, () -> x.weightOf(1));
        x.accept(0, 1, 0, 4);
        x.accept(0, 1, 0, 5);
        Check.reads(x, "weight before", 0, () -> x.weightOf(0));
        x.pass(1);
        Check.reads(x, "weight packed", 9, () -> x.weightOf(0));
        Check.reads(x, "dial packed", 1, () -> x.dialOf(0));
        x.dial(0, 0);
        Check.reads(x, "dial told", 0, () -> x.dialOf(0));
        x.dial(0, 1);
        x.pass(12);
        Check.reads(x, "weight delivered", 0, () -> x.weightOf(0));
        Check.reads(x, "dial delivered", -1, () -> x.dialOf(0));
    }

    private static void why() {
        Tubepost x = Nets.stations(3, 1);
        Check.throwsIt(x, "why(0)", OUT, () -> x.why(0));
        x.carrier(0);
        Check.throwsIt(x, "why(-1)", OUT, () -> x.why(-1));
        Check.throwsIt(x, "why(1)", OUT, () -> x.why(1));
        Check.reads(x, "no dial", 'd', () -> x.why(0));
        x.dial(0, 0);
        Check.reads(x, "a dial for this station", 'd', () -> x.why(0));
        x.dial(0, 1);
        Check.reads(x, "no tubes", 'n', () -> x.why(0));
        x.tube(1, 0, 3);
        Check.reads(x, "not blown", 'w', () -> x.why(0));
        x.blow(0, 's');
        Check.reads(x, "blown to here", 'w', () -> x.why(0));
        x.blow(0, 'f');
        Check.reads(x, "it can", '-', () -> x.why(0));
        x.dial(0, 2);
        Check.reads(x, "no tubes lead to 2", 'n', () -> x.why(0));
        x.tube(1, 2, 1);
        Check.reads(x, "nor is the next tube asked", '-', () -> x.why(0));
        x.setHours(0, 5, 6);
        Check.reads(x, "nor the hours", '-', () -> x.why(0));
        x.setHours(0, 0, 24);
        x.pass(1);
        Check.reads(x, "in a tube", 't', () -> x.why(0));
    }

    private static void whyOfTheGap() {
        Tubepost x = Nets.pair(2, 6);
        x.setGap(0, 3);
        x.carrier(0);
        x.carrier(0);
        x.dial(0, 1);
        x.dial(1, 1);
        Check.reads(x, "before", '-', () -> x.why(1));
        x.pass(1);
        Check.reads(x, "first cell full, ahead of the gap", 'c', () -> x.why(1));
        x.pass(1);
        Check.reads(x, "the gap", 'g', () -> x.why(1));
        x.setGap(0, 2);
        Check.reads(x, "a smaller gap", '-', () -> x.why(1));
        x.setGap(0, 20);
        x.order(1);
        Check.reads(x, "an order", '-', () -> x.why(1));
        x.setGap(0, 2);
        x.pass(1);
        x.carrier(0);
        x.dial(2, 1);
        x.order(2);
        Check.reads(x, "an order is not for the first cell", 'c', () -> x.why(2));
    }

    private static void speeds() {
        int[][] wornWeightSpeed = {{0, 0, 2}, {60, 0, 2}, {61, 0, 1}, {0, 6, 2}, {0, 7, 1}, {60, 6, 2}, {61, 7, 1},
            {90, 9, 1}, {0, 9, 1}, {95, 1, 1}};
        for (int[] w : wornWeightSpeed) {
            Tubepost x = sent(12, w[0], w[1]);
            x.pass(1);
            Check.is("speed at wear " + w[0] + " and weight " + w[1], 100 + w[2], x.placeOf(0));
        }
    }

    /** The wear of a cell on the way does not slow it down in the same tick. */
    private static void speedAsItBegan() {
        Tubepost x = sent(12, 60, 0);
        x.pass(1);
        Check.is("at wear 62", 102, x.placeOf(0));
        x.pass(1);
        Check.is("slower from the next tick on", 103, x.placeOf(0));
        Tubepost y = sent(12, 59, 0);
        y.setTube(0, 0, 5);
        y.pass(1);
        Check.is("both cells, at wear 61 and 63", 102, y.placeOf(0));
        Check.is("wear", 63, y.wear(0, 0));
        y.pass(1);
        Check.is("slower then", 103, y.placeOf(0));
    }

    private static void lowDraught() {
        int[][] wornWeightSpeed = {{0, 0, 1}, {61, 0, 0}, {0, 7, 0}, {70, 8, 0}};
        for (int[] w : wornWeightSpeed) {
            Tubepost x = Nets.pair(3, 12);
            x.setPower(0);
            x.setTube(0, 9, 9);
            x.pass(4);
            x.carrier(0);
            x.wear(0, w[0]);
            if (w[1] > 0) {
                x.accept(0, 1, 0, w[1]);
            } else {
                x.dial(0, 1);
            }
            x.pass(1);
            Check.is("sent", 100, x.placeOf(0));
            x.pass(1);
            Check.is("a draught of 1", 1, x.draught(0));
            Check.is("speed at wear " + w[0] + " and weight " + w[1], 100 + w[2], x.placeOf(0));
            x.pass(6);
            Check.is("the last draught of 1", 1, x.draught(0));
            int before = x.placeOf(0);
            x.pass(3);
            Check.is("no draught", 0, x.draught(0));
            Check.is("not moved", before, x.placeOf(0));
        }
    }

    private static void wearByCells() {
        int[][] waterWear = {{0, 1}, {4, 1}, {5, 2}, {9, 2}};
        for (int[] w : waterWear) {
            Tubepost x = sent(5, 10, 0);
            x.setTube(0, 0, w[0]);
            Check.is("going in is no cell", 10, x.wear(0, 0));
            x.pass(1);
            Check.is("two cells, water " + w[0], 10 + 2 * w[1], x.wear(0, 0));
            x.pass(1);
            Check.is("four cells", 10 + 4 * w[1], x.wear(0, 0));
            x.pass(1);
            Check.is("out", 1, x.placeOf(0));
            Check.is("going out is no cell", 10 + 4 * w[1], x.wear(0, 0));
        }
    }

    private static void sticks() {
        Tubepost x = sent(12, 98, 0);
        x.pass(1);
        Check.is("on at 98", 101, x.placeOf(0));
        x.pass(1);
        Check.is("on at 99", 102, x.placeOf(0));
        Check.is("wear", 100, x.wear(0, 0));
        x.pass(10);
        Check.is("sticks", 102, x.placeOf(0));
        Tubepost y = sent(12, 99, 0);
        y.setTube(0, 0, 9);
        y.pass(1);
        Check.is("wear at most", 100, y.wear(0, 0));
        Check.is("sticks", 101, y.placeOf(0));
        Tubepost z = sent(2, 99, 0);
        z.pass(5);
        Check.is("sticks in the last cell", 101, z.placeOf(0));
        Tubepost o = sent(1, 99, 0);
        o.pass(1);
        Check.is("goes out of the last cell at 99", 1, o.placeOf(0));
        Tubepost s = sent(12, 60, 0);
        s.pass(1);
        s.wear(0, 37);
        s.pass(1);
        Check.is("wear 99 moves on", 103, s.placeOf(0));
        Check.is("and sticks there", 100, s.wear(0, 0));
        s.pass(1);
        Check.is("and does not move", 103, s.placeOf(0));
    }

    private static void leavesWornOut() {
        Tubepost x = Nets.pair(1, 12);
        x.carrier(0);
        x.wear(0, 100);
        x.dial(0, 1);
        Check.is("it can leave", '-', x.why(0));
        x.pass(1);
        Check.is("leaves as others", 100, x.placeOf(0));
        x.pass(9);
        Check.is("sticks in the first cell", 100, x.placeOf(0));
        Check.is("heard there at the tick 10", 0, x.sound(0));
        Tubepost y = Nets.pair(1, 12);
        y.carrier(0);
        y.wear(0, 100);
        y.pass(4);
        Check.is("a worn one can be greased at a station", 100, y.grease(0));
    }

    private static void cannotPass() {
        Tubepost x = Nets.pair(1, 8);
        x.setGap(0, 0);
        for (int i = 0; i < 3; i++) {
            x.carrier(0);
            x.dial(i, 1);
        }
        x.wear(0, 97);
        x.pass(10);
        Check.is("the first sticks", 103, x.placeOf(0));
        Check.is("the second stands behind it", 102, x.placeOf(1));
        Check.is("the third behind that", 101, x.placeOf(2));
        Check.is("worn by the cells alone", 2, x.wear(1, 0));
        Check.is("sound", true, x.isSound());
        Check.is("the first cell is free", false, x.dig(0, 0));
        x.carrier(0);
        x.carrier(0);
        x.dial(3, 1);
        x.dial(4, 1);
        x.pass(2);
        Check.is("the fourth in the first cell", 100, x.placeOf(3));
        Check.is("the fifth cannot go in", 'c', x.why(4));
        Check.is("dug out", true, x.dig(0, 3));
        x.pass(1);
        Check.is("the second on", 104, x.placeOf(1));
        Check.is("the third on", 103, x.placeOf(2));
        Check.is("the fourth on", 102, x.placeOf(3));
    }

    private static void movesInAFile() {
        Tubepost x = Nets.stations(2, 1);
        x.tube(0, 1, 6);
        x.blow(0, 'f');
        x.setGap(0, 0);
        x.carrier(1);
        x.carrier(1);
        x.dial(0, 0);
        x.dial(1, 0);
        x.wear(0, 61);
        x.pass(1);
        Check.is("in at the far end", 105, x.placeOf(0));
        Check.is("the other waits", 'c', x.why(1));
        x.pass(1);
        Check.is("the slow one goes first", 104, x.placeOf(0));
        Check.is("so the fast one can go in", 105, x.placeOf(1));
        x.pass(1);
        Check.is("the slow one goes on", 103, x.placeOf(0));
        Check.is("the fast one only up to it", 104, x.placeOf(1));
        x.pass(3);
        Check.is("the slow one at the end", 100, x.placeOf(0));
        Check.is("the fast one behind it", 101, x.placeOf(1));
        x.pass(1);
        Check.is("both out in one tick", "a0@0:1 a1@0:1 i0@0:0 i1@1:0 o0@6:0 o1@6:0 e0@6:0", Nets.log(x));
    }

    /** Emptying comes before sending, and sending before packing. */
    private static Tubepost allThree(int clerk) {
        Tubepost x = Nets.pair(clerk, 3);
        for (int i = 0; i < 3; i++) {
            x.carrier(0);
        }
        x.dial(1, 0);
        x.dial(2, 1);
        x.accept(0, 1, 0, 1);
        return x;
    }

    private static void clerkDoesTheFirstThing() {
        Tubepost x = allThree(1);
        x.pass(4);
        Check.is("a clerk of 1",
                "a0@0:0 a1@0:0 a2@0:0 e1@0:0 i2@1:0 p0@2:0 o2@3:1 i0@3:0 e2@3:1", Nets.log(x));
    }

    private static void clerkOfThree() {
        Tubepost x = allThree(3);
        x.pass(3);
        Check.is("a clerk of 3",
                "a0@0:0 a1@0:0 a2@0:0 e1@0:0 i2@0:0 p0@0:0 o2@2:1 i0@2:0 e2@2:1", Nets.log(x));
        Tubepost y = allThree(2);
        y.pass(2);
        Check.is("a clerk of 2", "a0@0:0 a1@0:0 a2@0:0 e1@0:0 i2@0:0 p0@1:0", Nets.log(y));
    }

    private static void emptiesTheLongestWait() {
        Tubepost x = Nets.pair(1, 1);
        x.setHours(1, 20, 24);
        x.setGap(0, 0);
        for (int i = 0; i < 3; i++) {
            x.carrier(0);
        }
        x.dial(2, 1);
        x.pass(1);
        x.dial(0, 1);
        x.pass(1);
        x.dial(1, 1);
        x.pass(19);
        x.pass(2);
        Check.is("by wait, not by number", "a0@0:0 a1@0:0 a2@0:0 i2@0:0 o2@1:1 i0@1:0 o0@2:1 i1@2:0 o1@3:1"
                + " e2@20:1 e0@21:1 e1@22:1", Nets.log(x));
    }

    private static void emptiesWithoutItemsForHere() {
        Tubepost x = Nets.pair(1, 3);
        x.blow(0, '-');
        x.carrier(0);
        x.accept(0, 1, 0, 2);
        x.accept(0, 1, 1, 3);
        x.pass(1);
        x.dial(0, 0);
        x.pass(1);
        Check.is("dial of the first item left", 1, x.dialOf(0));
        Check.is("still loaded", 5, x.weightOf(0));
        Check.is("still carried", 'c', x.itemState(0));
        x.dial(0, -1);
        x.pass(5);
        Check.is("loaded without a dial, it stays so", -1, x.dialOf(0));
        Check.is("log", "a0@0:0 p0@0:0 e0@1:0", Nets.log(x));
        x.carrier(1);
        x.accept(1, 0, 0, 9);
        x.pass(1);
        x.dial(1, 1);
        x.pass(1);
        Check.is("dial of the only item left", 0, x.dialOf(1));
    }

    private static void emptiesWhateverTheDial() {
        for (int dial = -1; dial <= 1; dial++) {
            Tubepost x = Nets.pair(1, 1);
            x.tube(1, 0, 1);
            x.blow(1, 's');
            x.setHours(1, 5, 24);
            x.setHours(0, 0, 3);
            x.setWay(1, 0, 1);
            x.carrier(0);
            x.accept(0, 1, 0, 7);
            x.pass(5);
            Check.is("waits at the closed station", 1, x.placeOf(0));
            Check.is("not delivered", 'c', x.itemState(0));
            x.dial(0, dial);
            x.pass(1);
            Check.is("delivered, though the dial is " + dial, 'd', x.itemState(0));
            Check.is("stamped", 5, x.stamp(0, true));
            Check.is("dial then", -1, x.dialOf(0));
            Check.is("log", "a0@0:0 p0@0:0 i0@1:0 o0@2:1 e0@5:1", Nets.log(x));
        }
    }

    private static void sendsByRankThenWait() {
        Tubepost x = Nets.pair(1, 1);
        x.blow(0, '-');
        x.setGap(0, 0);
        for (int i = 0; i < 5; i++) {
            x.carrier(0);
        }
        x.dial(4, 1);
        int[] ranks = {0, 2, 1, 2};
        for (int i = 0; i < 4; i++) {
            x.accept(0, 1, ranks[i], 3);
            x.pass(1);
            Check.is("packed one by one", 3, x.weightOf(i));
        }
        x.blow(0, 's');
        x.pass(1);
        Check.is("state, longest wait", 100, x.placeOf(1));
        x.pass(1);
        Check.is("state", 100, x.placeOf(3));
        x.pass(1);
        Check.is("press", 100, x.placeOf(2));
        x.pass(1);
        Check.is("private", 100, x.placeOf(0));
        x.pass(1);
        Check.is("empty", 100, x.placeOf(4));
    }

    private static void sendsTheFirstThatCan() {
        Tubepost x = Nets.stations(3, 1);
        x.tube(0, 1, 3);
        x.tube(0, 2, 3);
        x.blow(1, 's');
        x.carrier(0);
        x.carrier(0);
        x.carrier(0);
        x.accept(0, 1, 2, 1);
        x.pass(1);
        Check.is("packed with a rank", 1, x.dialOf(0));
        x.dial(1, 2);
        x.pass(1);
        Check.is("the one with the rank cannot", 'w', x.why(0));
        Check.is("so the other one goes", 200, x.placeOf(1));
        x.blow(0, 's');
        x.dial(2, 2);
        x.pass(1);
        Check.is("and then the one with the rank", 100, x.placeOf(0));
    }

    private static void packsByRankAndWeight() {
        Tubepost x = Nets.stations(3, 3);
        x.tube(0, 1, 3);
        x.tube(0, 2, 3);
        for (int i = 0; i < 4; i++) {
            x.carrier(0);
        }
        x.accept(0, 1, 0, 5);
        x.accept(0, 1, 1, 3);
        x.accept(0, 1, 0, 4);
        x.accept(0, 2, 1, 1);
        x.accept(0, 1, 0, 1);
        x.accept(0, 1, 1, 9);
        x.accept(1, 0, 2, 1);
        x.setHours(0, 1, 24);
        x.pass(1);
        Check.is("closed", "wwwwwww", states(x, 7));
        x.setHours(0, 0, 24);
        x.pass(1);
        Check.is("dial of the greatest rank, lowest item", 1, x.dialOf(0));
        Check.is("each put in if the weight allows it", 9, x.weightOf(0));
        Check.is("dial of the next", 2, x.dialOf(1));
        Check.is("weight of the next", 1, x.weightOf(1));
        Check.is("dial of the third", 1, x.dialOf(2));
        Check.is("weight of the third", 9, x.weightOf(2));
        Check.is("dial of the fourth", -1, x.dialOf(3));
        Check.is("items", "ccwcccw", states(x, 7));
        x.pass(1);
        Check.is("weight of the fourth", 4, x.weightOf(3));
        Check.is("items", "ccccccw", states(x, 7));
        Check.is("log", "a0@0:0 a1@0:0 a2@0:0 a3@0:0 p0@1:0 p1@1:0 p2@1:0 p3@2:0", Nets.log(x));
    }

    private static String states(Tubepost x, int count) {
        StringBuilder text = new StringBuilder();
        for (int i = 0; i < count; i++) {
            text.append(x.itemState(i));
        }
        return text.toString();
    }

    private static void packsOnlyEmptyOnesWithoutDial() {
        Tubepost x = Nets.pair(3, 3);
        x.blow(0, '-');
        x.carrier(0);
        x.carrier(1);
        x.dial(0, 1);
        x.accept(0, 1, 0, 1);
        x.pass(3);
        Check.is("a dial hinders it, and another station's carrier", 'w', x.itemState(0));
        x.dial(0, -1);
        x.pass(1);
        Check.is("packed", 'c', x.itemState(0));
        x.dial(0, -1);
        x.accept(0, 1, 0, 1);
        x.pass(3);
        Check.is("a load hinders it", 'w', x.itemState(1));
        x.carrier(0);
        x.pass(1);
        Check.is("another one is packed", 1, x.weightOf(2));
    }

    private static void goesByTwoTubes() {
        Tubepost x = Nets.stations(3, 1);
        x.tube(0, 1, 2);
        x.tube(2, 1, 3);
        x.blow(0, 's');
        x.blow(1, 'f');
        x.carrier(0);
        x.accept(0, 2, 0, 1);
        x.pass(6);
        Check.is("by way of station 1, not emptied there",
                "a0@0:0 p0@0:0 i0@1:0 o0@2:1 i0@2:1 o0@4:2 e0@4:2", Nets.log(x));
        Check.is("delivered", 4, x.stamp(0, true));
    }

    /** Those that come out in a tick wait behind those that were there, in the order of the tubes. */
    private static void outBeforeIn() {
        Tubepost x = Nets.stations(3, 3);
        x.tube(0, 2, 1);
        x.tube(1, 2, 1);
        x.blow(0, 's');
        x.blow(1, 's');
        x.setHours(2, 3, 24);
        x.carrier(2);
        x.carrier(1);
        x.carrier(0);
        x.dial(0, 2);
        x.dial(1, 2);
        x.dial(2, 2);
        x.pass(4);
        Check.is("log", "a0@0:2 a1@0:1 a2@0:0 i2@0:0 i1@0:1 o2@1:2 o1@1:2 e0@3:2 e2@3:2 e1@3:2", Nets.log(x));
    }
}
