/**
 * The edges that the paragraphs "Net", "Air" and "Carriers" under "Terms" name, each on both sides and,
 * where they are few enough, with all numbers there are.
 */
public final class EdgesTest {
    private EdgesTest() {
    }

    public static void main(String[] args) {
        hoursOfAClerk();
        hoursAtFirst();
        theLastOfAll();
        blownOnlyWhileEmpty();
        gaps();
        gapOfTheLastThatWentIn();
        receiver();
        receiverInTheTick();
        draughtByWhatIsLeft();
        draughtByCells();
        lowestTubesFirst();
        wearIsAtMost100();
        weightIsAtMost9();
        weightLeavesRoomForALighterOne();
        speeds();
        speedsOfALowDraught();
        wearForWater();
        sticksAt100();
        greased();
        Check.end();
    }

    /** A carrier with a dial for the station where it is, before each tick: it is emptied if it is open. */
    private static void hoursOfAClerk() {
        for (int from = 0; from < 24; from++) {
            for (int to = from + 1; to <= 24; to++) {
                Tubepost x = Nets.pair(1, 3);
                x.carrier(0);
                x.setHours(0, from, to);
                for (int tick = 0; tick < 50; tick++) {
                    boolean open = tick % 24 >= from && tick % 24 < to;
                    String told = " in tick " + tick + " of " + from + " to " + to;
                    Check.is("accepted" + told, open ? "3" : "throws.IllegalStateException",
                            Check.answer(() -> x.accept(0, 1, 0, 1)));
                    x.dial(0, 0);
                    x.pass(1);
                    Check.is("emptied" + told, open ? -1 : 0, x.dialOf(0));
                }
            }
        }
    }

    private static void hoursAtFirst() {
        Tubepost x = Nets.pair(1, 3);
        x.carrier(0);
        for (int tick = 0; tick < 49; tick++) {
            x.dial(0, 0);
            x.pass(1);
            Check.is("emptied in tick " + tick, tick + 2, x.entries());
        }
        Check.is("from 0", 0, x.setHours(0, 0, 24));
    }

    /** The eighth station, the fourteenth tube, the twelfth carrier and the sixtieth item work as others. */
    private static void theLastOfAll() {
        Tubepost x = Nets.stations(8, 3);
        for (int i = 0; i < 14; i++) {
            x.tube(i < 13 ? 0 : 7, 6, 12);
        }
        for (int i = 0; i < 12; i++) {
            x.carrier(i < 11 ? 1 : 7);
        }
        for (int i = 0; i < 60; i++) {
            x.accept(i < 59 ? 0 : 7, i < 59 ? 6 : 0, i < 59 ? 0 : 1, 9);
        }
        Check.is("way of the eighth station", 13, x.wayOf(7, 0));
        Check.is("way to the eighth station", 0, x.wayOf(0, 7));
        x.blow(13, 's');
        x.pass(2);
        Check.is("in the fourteenth tube", 1401, x.placeOf(11));
        Check.is("by the log", 1400, x.placeByLog(11));
        Check.is("with the sixtieth item", 'c', x.itemState(59));
        Check.is("its weight", 9, x.weightOf(11));
        Check.is("its dial", 0, x.dialOf(11));
        Check.is("draught", 2, x.draught(13));
        x.blow(0, 'f');
        x.pass(23);
        Check.is("delivered", 24, x.stamp(59, true));
        Check.is("log", "p11@0:7 i11@0:13 o11@12:6 i11@12:0 o11@24:0 e11@24:0 p11@24:0",
                Nets.logFrom(x, 12));
    }

    /** A carrier that goes, that sticks, that is in another tube, that went out, that was dug out. */
    private static void blownOnlyWhileEmpty() {
        Tubepost x = Nets.pair(3, 4);
        x.tube(0, 1, 4);
        x.carrier(0);
        x.carrier(0);
        x.dial(0, 1);
        x.dial(1, 1);
        x.pass(1);
        for (int tick = 0; tick < 2; tick++) {
            Check.throwsIt(x, "one goes", IllegalStateException.class, () -> x.blow(0, 'f'));
            Check.throwsIt(x, "one goes", IllegalStateException.class, () -> x.blow(0, '-'));
            Check.reads(x, "the same way", 's', () -> x.blow(0, 's'));
            x.pass(1);
        }
        x.wear(1, 100);
        Check.is("the first one is out", 1, x.placeOf(0));
        Check.throwsIt(x, "one sticks", IllegalStateException.class, () -> x.blow(0, 'f'));
        Check.is("the other tube is empty", '-', x.blow(1, 'f'));
        Check.is("the other tube is empty", 'f', x.blow(1, '-'));
        x.dig(0, 0);
        Check.is("the stuck one dug out", 's', x.blow(0, 'f'));
        Check.is("and back", 'f', x.blow(0, '-'));
        Check.is("and at last", '-', x.blow(0, 's'));
    }

    /** The second carrier goes in as many ticks behind the first one as the gap has, and never in the same. */
    private static void gaps() {
        for (int gap = 0; gap <= 20; gap++) {
            for (int from = 0; from < 2; from++) {
                Tubepost x = Nets.pair(3, 12);
                x.blow(0, from == 0 ? 's' : 'f');
                x.setGap(0, gap);
                for (int i = 0; i < 2; i++) {
                    x.carrier(from);
                    x.dial(i, 1 - from);
                }
                x.pass(1);
                for (int gone = 1; gone <= Math.max(gap, 1); gone++) {
                    String told = gone + " ticks of the gap " + gap;
                    Check.is("why, " + told, gone == 1 ? 'c' : gone < gap ? 'g' : '-', x.why(1));
                    x.pass(1);
                    Check.is("place, " + told, gone < gap ? from : from == 0 ? 100 : 111, x.placeOf(1));
                }
            }
        }
    }

    /** The gap is that of the tube, whoever went in, and on whichever side. */
    private static void gapOfTheLastThatWentIn() {
        Tubepost x = Nets.pair(3, 1);
        x.tube(0, 1, 1);
        x.setGap(0, 5);
        x.carrier(0);
        x.dial(0, 1);
        x.pass(2);
        Check.is("out", 1, x.placeOf(0));
        x.blow(0, 'f');
        x.dial(0, 0);
        Check.is("2 of 5", 'g', x.why(0));
        x.setWay(1, 0, 1);
        x.blow(1, 'f');
        Check.is("no gap in the other tube", '-', x.why(0));
        x.setWay(1, 0, 0);
        x.pass(2);
        Check.is("4 of 5", 'g', x.why(0));
        x.dig(0, 0);
        Check.is("digging is no going in", 'g', x.why(0));
        x.pass(1);
        Check.is("5 of 5", '-', x.why(0));
        x.setGap(0, 6);
        Check.is("5 of 6", 'g', x.why(0));
        x.pass(1);
        Check.is("6 of 6", '-', x.why(0));
    }

    /** From 100 on, as much as the power, up to 500, each tick. */
    private static void receiver() {
        for (int power = 0; power <= 200; power++) {
            Tubepost x = new Tubepost();
            x.setPower(power);
            for (int tick = 1; tick <= 12; tick++) {
                x.pass(1);
                int due = Math.min(500, 100 + power * tick);
                Check.is("receiver by " + power, due, x.air('r'));
                Check.is("made by " + power, due - 100, x.air('m'));
            }
        }
        Tubepost y = new Tubepost();
        Check.is("at first", 100, y.air('r'));
        y.pass(19);
        Check.is("one tick short of full", 480, y.air('r'));
        y.pass(1);
        Check.is("just full", 500, y.air('r'));
        y.pass(1);
        Check.is("no more", 500, y.air('r'));
        Check.is("made", 400, y.air('m'));
    }

    /** A full receiver takes nothing first, and then gives; what was given is made again in the next tick. */
    private static void receiverInTheTick() {
        Tubepost x = Nets.pair(1, 12);
        x.blow(0, '-');
        x.pass(20);
        x.setPower(4);
        x.blow(0, 's');
        x.pass(1);
        Check.is("full, then 5 taken", 495, x.air('r'));
        Check.is("nothing was made", 400, x.air('m'));
        x.pass(1);
        Check.is("4 made, 5 taken", 494, x.air('r'));
        x.setPower(6);
        x.pass(1);
        Check.is("6 made up to 500, 5 taken", 495, x.air('r'));
        Check.is("made", 410, x.air('m'));
        x.pass(1);
        Check.is("5 of 6 made, 5 taken", 495, x.air('r'));
        Check.is("made", 415, x.air('m'));
    }

    /** A mail whose receiver is empty, with a power of so much air in each tick from then on. */
    private static Tubepost withAir(int cells, int air) {
        Tubepost x = Nets.pair(3, cells);
        x.tube(1, 0, 12);
        x.blow(0, '-');
        x.blow(1, 's');
        x.setTube(1, 9, 9);
        x.setPower(0);
        x.pass(12);
        Check.is("empty", 0, x.air('r'));
        x.blow(0, 's');
        x.blow(1, '-');
        x.setPower(air);
        return x;
    }

    private static void takes(Tubepost x, String told, int air, int leak, int need) {
        int used = x.air('u');
        int lost = x.air('l');
        x.pass(1);
        int draught = air >= need ? 2 : air >= 1 ? 1 : 0;
        int taken = draught == 2 ? need : draught;
        int leaked = draught == 2 ? leak : 0;
        Check.is(told + ", draught", draught, x.draught(0));
        Check.is(told + ", left", air - taken, x.air('r'));
        Check.is(told + ", lost", lost + leaked, x.air('l'));
        Check.is(told + ", used", used + taken - leaked, x.air('u'));
        Check.is(told + ", sound", true, x.isSound());
    }

    private static void draughtByWhatIsLeft() {
        for (int leak = 0; leak <= 9; leak++) {
            for (int water = 0; water <= 9; water++) {
                int need = 1 + leak + water + 2;
                for (int air : new int[] {0, 1, 2, need - 1, need, need + 1}) {
                    Tubepost x = withAir(7, air);
                    x.setTube(0, leak, water);
                    takes(x, "leak " + leak + ", water " + water + ", air " + air, air, leak, need);
                }
            }
        }
    }

    private static void draughtByCells() {
        for (int cells = 1; cells <= 12; cells++) {
            int need = 1 + (cells - cells % 3) / 3;
            for (int air = 0; air <= 6; air++) {
                Tubepost x = withAir(cells, air);
                takes(x, cells + " cells, air " + air, air, 0, need);
                Tubepost y = withAir(cells, air);
                y.blow(0, 'f');
                takes(y, cells + " cells, air " + air + ", the other way", air, 0, need);
            }
        }
    }

    /** The lower tube is served first; what it leaves may be enough for a smaller one. */
    private static void lowestTubesFirst() {
        int[][] airAndDraughts = {{0, 0, 0}, {1, 1, 0}, {2, 1, 2}, {3, 1, 2}, {4, 2, 0}, {5, 2, 2}, {6, 2, 2}};
        for (int[] a : airAndDraughts) {
            Tubepost x = withAir(9, a[0]);
            x.tube(0, 1, 1);
            x.blow(2, 'f');
            x.pass(1);
            Check.is("the lower one, air " + a[0], a[1], x.draught(0));
            Check.is("the one that is not blown", 0, x.draught(1));
            Check.is("the higher one, air " + a[0], a[2], x.draught(2));
        }
    }

    private static void wearIsAtMost100() {
        for (int first = 0; first <= 100; first++) {
            for (int by = 0; by <= 100; by++) {
                Tubepost x = Nets.stations(1, 1);
                x.carrier(0);
                Check.is("wear " + first, first, x.wear(0, first));
                Check.is("wear " + first + " and " + by, first + by > 100 ? 100 : first + by, x.wear(0, by));
            }
        }
    }

    private static void weightIsAtMost9() {
        for (int one = 1; one <= 9; one++) {
            for (int other = 1; other <= 9; other++) {
                Tubepost x = Nets.pair(1, 3);
                x.carrier(0);
                x.accept(0, 1, 0, one);
                x.accept(0, 1, 0, other);
                x.pass(1);
                boolean both = one + other <= 9;
                Check.is("weight of " + one + " and " + other, both ? one + other : one, x.weightOf(0));
                Check.is("the second of " + one + " and " + other, both ? 'c' : 'w', x.itemState(1));
            }
        }
    }

    private static void weightLeavesRoomForALighterOne() {
        for (int third = 1; third <= 9; third++) {
            Tubepost x = Nets.pair(1, 3);
            x.carrier(0);
            x.accept(0, 1, 0, 6);
            x.accept(0, 1, 0, 4);
            x.accept(0, 1, 0, third);
            x.pass(1);
            Check.is("6, not 4, and " + third, third <= 3 ? 6 + third : 6, x.weightOf(0));
            Check.is("the second", 'w', x.itemState(1));
            Check.is("the third", third <= 3 ? 'c' : 'w', x.itemState(2));
        }
    }

    /** A carrier in the first cell of a tube of 12 that has so much air in each tick. */
    private static Tubepost inFirstCell(int wear, int weight, int air) {
        Tubepost x = withAir(12, air);
        x.carrier(0);
        x.wear(0, wear);
        if (weight > 0) {
            x.accept(0, 1, 0, weight);
        } else {
            x.dial(0, 1);
        }
        x.pass(1);
        Check.is("in the first cell", 100, x.placeOf(0));
        return x;
    }

    /** Less 1 above the wear 60 or the weight 6; no farther than to the cell where it sticks. */
    private static void speeds() {
        for (int wear = 0; wear <= 100; wear++) {
            for (int weight = 0; weight <= 9; weight++) {
                boolean slow = wear > 60 || weight > 6;
                Tubepost x = inFirstCell(wear, weight, 5);
                x.pass(1);
                int cells = Math.min(slow ? 1 : 2, 100 - wear);
                Check.is("draught", 2, x.draught(0));
                Check.is("place at wear " + wear + ", weight " + weight, 100 + cells, x.placeOf(0));
                Check.is("wear from " + wear + ", weight " + weight, wear + cells, x.wear(0, 0));
            }
        }
    }

    /** With the draught 1 a slow carrier has no speed, and with none there is none, and not less. */
    private static void speedsOfALowDraught() {
        for (int wear = 0; wear <= 100; wear++) {
            for (int weight = 0; weight <= 9; weight++) {
                boolean slow = wear > 60 || weight > 6;
                Tubepost x = inFirstCell(wear, weight, 1);
                x.pass(1);
                Check.is("draught", 1, x.draught(0));
                int there = slow ? 100 : 101;
                Check.is("place at wear " + wear + ", weight " + weight, there, x.placeOf(0));
                x.setPower(0);
                x.pass(2);
                Check.is("no draught", 0, x.draught(0));
                Check.is("place still", there, x.placeOf(0));
            }
        }
    }

    /** 1 more for each cell up to the water 4, 2 more from 5 on, and 100 at most. */
    private static void wearForWater() {
        for (int water = 0; water <= 9; water++) {
            for (int wear : new int[] {0, 58, 59, 60, 95, 96, 97, 98, 99}) {
                Tubepost x = inFirstCell(wear, 0, 14);
                x.setTube(0, 0, water);
                x.pass(1);
                int each = water > 4 ? 2 : 1;
                int cells = wear > 60 ? 1 : 2;
                Check.is("wear from " + wear + ", water " + water, Math.min(100, wear + cells * each), x.wear(0, 0));
                Check.is("place from " + wear + ", water " + water, 100 + cells, x.placeOf(0));
                x.pass(1);
                int more = wear + cells * each >= 100 ? 0 : wear + cells * each > 60 ? 1 : 2;
                Check.is("place then", 100 + cells + more, x.placeOf(0));
                Check.is("wear then", Math.min(100, wear + (cells + more) * each), x.wear(0, 0));
            }
        }
    }

    /** One with the wear 99 goes on, and sticks where it has 100; one with 100 leaves a station as others. */
    private static void sticksAt100() {
        for (int wear = 97; wear <= 100; wear++) {
            Tubepost x = Nets.pair(1, 12);
            x.carrier(0);
            x.dial(0, 1);
            x.wear(0, wear);
            Check.is("it can leave", '-', x.why(0));
            x.pass(1);
            Check.is("in the first cell", 100, x.placeOf(0));
            Check.is("going in is no cell", wear, x.wear(0, 0));
            x.pass(20);
            Check.is("sticks", 100 + 100 - wear, x.placeOf(0));
            Check.is("wear", 100, x.wear(0, 0));
            Check.is("heard", 100 - wear + 1 - 21 % 3, x.sound(0));
        }
    }

    private static void greased() {
        for (int wear = 0; wear <= 100; wear++) {
            Tubepost x = Nets.pair(1, 12);
            x.carrier(0);
            x.wear(0, wear);
            Check.is("wear before", wear, x.grease(0));
            Check.is("wear then", 0, x.wear(0, 0));
            x.dial(0, 1);
            x.pass(2);
            Check.is("as fast as a new one", 102, x.placeOf(0));
        }
    }
}
