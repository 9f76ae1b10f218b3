/**
 * The edges that the paragraphs "Moving", "Clerks", "Ways", "Items", "Blocked tubes" and "Ticks and log"
 * under "Terms" name, each on both sides and, where they are few enough, with all numbers there are.
 */
public final class TickEdgesTest {
    private TickEdgesTest() {
    }

    public static void main(String[] args) {
        goesOut();
        goesOutOrSticksInTheLastCell();
        stopsBehindAStuckOne();
        theNearestToTheEndFirst();
        onlyTheFirstCellMustBeEmpty();
        thingsInATick();
        packsThenSendsInATick();
        anEmptyOneIsAsPrivate();
        waitsAreNotNumbers();
        theWaitGoesOn();
        ordersStay();
        allWaysOfALine();
        toldTubes();
        ordersInTime();
        ordersThatWereNotNeeded();
        pricesOfALine();
        latenessOfAll();
        stampsOverMidnight();
        sharesAndMeans();
        soundAndPressure();
        digsAtEachCell();
        digsOnlyWhatSticks();
        ticksAtOnce();
        ticksFarOn();
        Check.end();
    }

    /** A carrier with the dial to the other end in the first cell, after the tick 0. */
    private static Tubepost sent(int cells, char way, int wear) {
        Tubepost x = Nets.stations(2, 3);
        x.tube(0, 1, cells);
        x.blow(0, way);
        x.setPower(200);
        int from = way == 's' ? 0 : 1;
        x.carrier(from);
        x.dial(0, 1 - from);
        x.wear(0, wear);
        x.pass(1);
        Check.is("in the first cell", way == 's' ? 100 : 99 + cells, x.placeOf(0));
        return x;
    }

    /** So many cells and the way out, by 2 or by 1 in a tick. */
    private static void goesOut() {
        for (int cells = 1; cells <= 12; cells++) {
            for (int speed = 1; speed <= 2; speed++) {
                for (char way : new char[] {'s', 'f'}) {
                    String told = " of " + cells + " cells by " + speed + " to " + way;
                    int wear = speed == 1 ? 61 : 0;
                    Tubepost x = sent(cells, way, wear);
                    int end = way == 's' ? 1 : 0;
                    int out = (cells + speed - 1) / speed;
                    for (int tick = 1; tick < out; tick++) {
                        x.pass(1);
                        int gone = speed * tick;
                        Check.is("place" + told, 100 + (way == 's' ? gone : cells - 1 - gone), x.placeOf(0));
                    }
                    x.pass(1);
                    Check.is("out" + told, end, x.placeOf(0));
                    Check.is("worn by the cells behind the first" + told, wear + cells - 1, x.wear(0, 0));
                    Check.is("log" + told, "i0@0:0 o0@" + out + ":" + end + " e0@" + out + ":" + end,
                            Nets.logFrom(x, 1));
                }
            }
        }
    }

    /** With 100 in the last cell it sticks there, with 99 it goes out. */
    private static void goesOutOrSticksInTheLastCell() {
        for (int cells = 1; cells <= 12; cells++) {
            for (char way : new char[] {'s', 'f'}) {
                Tubepost x = sent(cells, way, 101 - cells);
                x.pass(30);
                Check.is("sticks in the last of " + cells, way == 's' ? 99 + cells : 100, x.placeOf(0));
                Check.is("wear", 100, x.wear(0, 0));
                Tubepost y = sent(cells, way, 100 - cells);
                y.pass(30);
                Check.is("out of " + cells, way == 's' ? 1 : 0, y.placeOf(0));
                Check.is("wear", 99, y.wear(0, 0));
            }
        }
    }

    private static void stopsBehindAStuckOne() {
        for (int cell = 1; cell < 12; cell++) {
            for (int wear : new int[] {0, 61}) {
                Tubepost x = sent(12, 's', 100 - cell);
                x.pass(11);
                Check.is("stuck", 100 + cell, x.placeOf(0));
                x.carrier(0);
                x.dial(1, 1);
                x.wear(1, wear);
                x.pass(13);
                Check.is("behind the cell " + cell, 99 + cell, x.placeOf(1));
                Check.is("worn by the cells it went", wear + cell - 1, x.wear(1, 0));
                Check.is("not in one cell", true, x.isSound());
            }
        }
    }

    /** Two fast ones with one cell between them: the one ahead moves first, or the other one would be held. */
    private static void theNearestToTheEndFirst() {
        for (char way : new char[] {'s', 'f'}) {
            Tubepost x = sent(12, way, 0);
            x.setGap(0, 1);
            int from = way == 's' ? 0 : 1;
            x.carrier(from);
            x.dial(1, 1 - from);
            x.pass(1);
            int step = way == 's' ? 1 : -1;
            int start = way == 's' ? 100 : 111;
            for (int tick = 1; tick <= 5; tick++) {
                Check.is("ahead", start + 2 * tick * step, x.placeOf(0));
                Check.is("behind", start + 2 * (tick - 1) * step, x.placeOf(1));
                x.pass(1);
            }
            Check.is("out", 1 - from, x.placeOf(0));
        }
    }

    /** One that stands in the first cell on this side hinders, one in the next cell does not. */
    private static void onlyTheFirstCellMustBeEmpty() {
        for (int cells = 1; cells <= 12; cells++) {
            for (char way : new char[] {'s', 'f'}) {
                int from = way == 's' ? 0 : 1;
                for (int at = 0; at < Math.min(cells, 3); at++) {
                    Tubepost x = sent(cells, way, 100 - at);
                    x.pass(5);
                    x.carrier(from);
                    x.dial(1, 1 - from);
                    x.order(1);
                    Check.is("why, one in the cell " + at, at == 0 ? 'c' : '-', x.why(1));
                    x.pass(1);
                    Check.is("place", at == 0 ? from : way == 's' ? 100 : 99 + cells, x.placeOf(1));
                }
            }
        }
    }

    /** As many as the clerk does and as there are to do, and the rest in the next ticks. */
    private static void thingsInATick() {
        for (int clerk = 1; clerk <= 3; clerk++) {
            for (int things = 0; things <= 4; things++) {
                Tubepost x = Nets.stations(2, clerk);
                for (int i = 0; i < things; i++) {
                    x.carrier(1);
                    x.dial(i, 1);
                }
                int left = things;
                for (int tick = 0; tick < 5; tick++) {
                    x.pass(1);
                    left = Math.max(0, left - clerk);
                    Check.is("done by a clerk of " + clerk, things + things - left, x.entries());
                }
            }
        }
    }

    private static void packsThenSendsInATick() {
        String[] due = {"p0@0:0 i0@1:0", "p0@0:0 i0@0:0 p1@1:0", "p0@0:0 i0@0:0 p1@0:0"};
        for (int clerk = 1; clerk <= 3; clerk++) {
            Tubepost x = Nets.pair(clerk, 12);
            x.carrier(0);
            x.carrier(0);
            x.accept(0, 1, 0, 9);
            x.accept(0, 1, 0, 9);
            x.pass(2);
            Check.is("clerk of " + clerk, due[clerk - 1], Nets.logFrom(x, 2));
        }
    }

    /** Without items the rank is 0, as that of private ones: the longer wait tells. */
    private static void anEmptyOneIsAsPrivate() {
        for (int rank = 0; rank <= 2; rank++) {
            for (int empty = 0; empty <= 1; empty++) {
                Tubepost x = Nets.pair(1, 1);
                x.blow(0, '-');
                x.carrier(0);
                x.carrier(0);
                x.dial(empty, 1);
                x.accept(0, 1, rank, 1);
                x.pass(1);
                Check.is("packed", 1, x.weightOf(1 - empty));
                x.blow(0, 's');
                x.pass(1);
                int first = rank == 0 ? 0 : 1 - empty;
                Check.is("the first of rank " + rank + ", empty " + empty, 100, x.placeOf(first));
                Check.is("the other one", 0, x.placeOf(1 - first));
            }
        }
    }

    /** Carrier 1 waits at station 0 as carrier 0 comes there: each of the three things is done to 1 first. */
    private static void waitsAreNotNumbers() {
        for (int thing = 0; thing < 3; thing++) {
            Tubepost x = Nets.pair(1, 1);
            x.tube(1, 0, 1);
            x.blow(1, 's');
            x.setWay(1, 0, 1);
            x.carrier(1);
            x.carrier(0);
            x.dial(0, 0);
            x.pass(3);
            Check.is("come and emptied", "i0@0:1 o0@1:0 e0@1:0", Nets.logFrom(x, 2));
            for (int i = 0; i < 2 && thing < 2; i++) {
                x.dial(i, thing);
            }
            x.accept(0, 1, 0, 5);
            x.pass(1);
            Check.is("the one that has waited longest", thing == 0 ? "e1@3:0" : thing == 1 ? "i1@3:0" : "p1@3:0",
                    Nets.logFrom(x, 5));
        }
    }

    /** One that is emptied, packed, greased or told a dial waits as from when it came. */
    private static void theWaitGoesOn() {
        Tubepost x = Nets.pair(1, 1);
        x.blow(0, '-');
        x.carrier(0);
        x.carrier(0);
        x.dial(0, 0);
        x.accept(0, 1, 0, 6);
        x.accept(0, 1, 0, 6);
        x.pass(2);
        Check.is("emptied and packed first", "e0@0:0 p0@1:0", Nets.logFrom(x, 2));
        x.pass(1);
        x.wear(0, 5);
        x.grease(0);
        x.dial(0, -1);
        x.dial(0, 1);
        x.blow(0, 's');
        x.pass(1);
        Check.is("and sent first", "p1@2:0 i0@3:0", Nets.logFrom(x, 4));
    }

    /** An order is there until the carrier leaves, whatever is done with it. */
    private static void ordersStay() {
        Tubepost x = sent(12, 's', 100);
        x.order(0);
        x.accept(0, 1, 0, 1);
        x.pass(1);
        x.dig(0, 0);
        x.grease(0);
        x.dial(0, 0);
        x.blow(0, '-');
        x.pass(3);
        Check.is("dug out, greased, emptied, packed", "d0@2:0 e0@2:0 p0@2:0", Nets.logFrom(x, 2));
        Check.is("the order is there", true, x.order(0));
    }

    private static void allWaysOfALine() {
        Tubepost x = Nets.stations(8, 1);
        for (int i = 0; i < 7; i++) {
            x.tube(i % 2 == 0 ? i : i + 1, i % 2 == 0 ? i + 1 : i, 1);
        }
        for (int from = 0; from < 8; from++) {
            for (int to = 0; to < 8; to++) {
                int here = from;
                int there = to;
                Check.is("way from " + from + " to " + to,
                        from == to ? "throws.NoSuchElementException" : "" + (from < to ? from : from - 1),
                        Check.answer(() -> x.wayOf(here, there)));
            }
        }
        for (int i = 0; i < 7; i++) {
            x.tube(i, i + 1, 1);
        }
        Check.is("the lowest of two", 3, x.wayOf(3, 7));
        Check.is("the lowest of two back", 2, x.wayOf(3, 0));
    }

    /** A tube told leads the way if it is one of the station, on either end, and whatever it is blown. */
    private static void toldTubes() {
        Tubepost x = Nets.stations(4, 1);
        int[][] ends = {{0, 1}, {1, 2}, {0, 2}, {2, 0}, {3, 0}, {2, 3}};
        for (int[] e : ends) {
            x.tube(e[0], e[1], 1);
        }
        for (int from = 0; from < 4; from++) {
            for (int to = 0; to < 4; to++) {
                for (int told = 0; told < 6 && from != to; told++) {
                    int before = x.wayOf(from, to);
                    int back = x.wayOf(to, from);
                    x.setWay(from, to, told);
                    boolean own = ends[told][0] == from || ends[told][1] == from;
                    Check.is("way from " + from + " to " + to + ", told " + told, own ? told : before,
                            x.wayOf(from, to));
                    Check.is("the way back", back, x.wayOf(to, from));
                    Check.is("told", told, x.setWay(from, to, -1));
                    Check.is("the way with none told", before, x.wayOf(from, to));
                }
            }
        }
    }

    /** An order serves once, for the carrier for which it was written, in the tick in which it leaves. */
    private static void ordersInTime() {
        Tubepost x = Nets.pair(3, 12);
        x.setGap(0, 20);
        for (int i = 0; i < 3; i++) {
            x.carrier(0);
            x.dial(i, 1);
        }
        x.pass(2);
        Check.is("no order", 'g', x.why(1));
        Check.is("none was there", false, x.order(1));
        Check.is("an order", '-', x.why(1));
        Check.is("not for another one", 'g', x.why(2));
        Check.is("one is there", true, x.order(1));
        x.pass(1);
        Check.is("gone in", "i1@2:0", Nets.logFrom(x, 4));
        x.pass(9);
        Check.is("come out, emptied", "o1@8:1 e1@8:1", Nets.logFrom(x, 7));
        x.blow(0, 'f');
        x.dial(1, 0);
        Check.is("the order is used up", 'g', x.why(1));
        Check.is("none is there", false, x.order(1));
    }

    /** An order is used up also where the gap has just gone, or is 0, or where none went in before. */
    private static void ordersThatWereNotNeeded() {
        for (int gap = 0; gap <= 20; gap++) {
            Tubepost x = Nets.pair(3, 12);
            x.setGap(0, gap);
            x.carrier(0);
            x.carrier(0);
            x.order(0);
            x.dial(0, 1);
            x.pass(Math.max(gap, 2));
            Check.is("the first one's, gap " + gap, false, x.order(0));
            x.order(1);
            x.dial(1, 1);
            x.pass(1);
            Check.is("in", 100, x.placeOf(1));
            Check.is("the second one's, gap " + gap, false, x.order(1));
            Check.is("one written in the tube", true, x.order(0));
        }
    }

    /** 2 plus the weight times the fewest tubes, twice for the rank 1, nothing for 2. */
    private static void pricesOfALine() {
        for (int rank = 0; rank <= 2; rank++) {
            for (int tubes = 1; tubes <= 7; tubes++) {
                Tubepost x = Nets.stations(8, 1);
                for (int i = 0; i < 7; i++) {
                    x.tube(i + 1, i, 12);
                }
                long sum = 0;
                for (int weight = 1; weight <= 9; weight++) {
                    int due = (2 + weight * tubes) * (rank == 0 ? 1 : rank == 1 ? 2 : 0);
                    Check.is("price of " + weight + " over " + tubes, due, x.accept(0, tubes, rank, weight));
                    Check.is("price back", due, x.accept(7, 7 - tubes, rank, weight));
                    sum += 2 * due;
                    Check.is("earned", sum, x.earned());
                }
            }
        }
    }

    /** An item of the tick 0, or of a later one, that is delivered in each tick that can be asked of. */
    private static void latenessOfAll() {
        int[] within = {20, 10, 6};
        for (int rank = 0; rank <= 2; rank++) {
            for (int first = 0; first <= 25; first += 5) {
                for (int gone = 1; gone <= 25; gone++) {
                    Tubepost x = Nets.pair(2, 1);
                    passAll(x, first);
                    int price = x.accept(0, 1, rank, 1 + gone % 9);
                    passAll(x, gone - 1);
                    x.carrier(0);
                    x.pass(2);
                    String told = "rank " + rank + ", from " + first + " to " + x.stamp(0, true);
                    Check.is(told, first + gone, x.stamp(0, true));
                    boolean late = gone + 1 > within[rank];
                    Check.is(told + ", claim", late ? "" + (price + price % 2) / 2 : "throws.IllegalStateException",
                            Check.answer(() -> x.claim(0)));
                    Check.is(told + ", earned", (long) (late ? price / 2 : price), x.earned());
                    Check.throwsIt(x, told + ", again", IllegalStateException.class, () -> x.claim(0));
                    Check.is(told + ", share", late ? 1f : 0f, x.lateShare());
                    Check.is(told + ", mean", (double) gone, x.meanTime());
                }
            }
        }
    }

    private static void passAll(Tubepost x, int ticks) {
        if (ticks > 0) {
            x.pass(ticks);
        }
    }

    /** The tick goes on over 24; the hours begin anew. */
    private static void stampsOverMidnight() {
        Tubepost x = Nets.pair(2, 1);
        x.setHours(0, 23, 24);
        x.setHours(1, 0, 1);
        x.carrier(0);
        x.pass(23);
        x.accept(0, 1, 0, 1);
        x.pass(1);
        x.setHours(0, 0, 1);
        Check.is("open at 24", 3, x.accept(0, 1, 0, 1));
        x.pass(1);
        Check.is("first stamp", 23, x.stamp(0, false));
        Check.is("second stamp", 24, x.stamp(0, true));
        Check.is("first stamp of the next", 24, x.stamp(1, false));
        Check.throwsIt(x, "closed at 25", IllegalStateException.class, () -> x.accept(0, 1, 0, 1));
        Check.is("log", "p0@23:0 i0@23:0 o0@24:1 e0@24:1", Nets.logFrom(x, 1));
    }

    /** Items of the tick 0 and others of the tick 10, all delivered in the tick 11. */
    private static void sharesAndMeans() {
        for (int all = 1; all <= 9; all++) {
            for (int late = 0; late <= all; late++) {
                Tubepost x = Nets.pair(2, 1);
                for (int i = 0; i < late; i++) {
                    x.accept(0, 1, 2, 1);
                }
                x.pass(10);
                for (int i = late; i < all; i++) {
                    x.accept(0, 1, 2, 1);
                }
                x.accept(1, 0, 2, 1);
                x.carrier(0);
                x.pass(2);
                Check.reads(x, late + " late of " + all, (float) late / (float) all, () -> x.lateShare());
                Check.reads(x, "mean of these", (double) (11 * late + all - late) / (double) all, () -> x.meanTime());
            }
        }
    }

    /** Each carrier stuck in each cell, in the ticks of which 3 and 4 leave all there is. */
    private static void soundAndPressure() {
        for (int number = 0; number < 12; number++) {
            for (int cell = 0; cell < 12; cell++) {
                Tubepost x = Nets.pair(3, 12);
                for (int i = 0; i <= number; i++) {
                    x.carrier(0);
                }
                x.wear(number, 100 - cell);
                x.dial(number, 1);
                x.pass(12);
                int[] less = {0, 1, 2};
                int[] more = {-2, -1, 0, 1};
                for (int tick = 12; tick < 24; tick++) {
                    Check.is("sound", cell + 1 - less[tick % 3], x.sound(0));
                    Check.is("pressure", cell + more[(tick + number) % 4], x.pressure(0));
                    Check.is("tick", tick + 1, x.pass(1));
                }
            }
        }
    }

    /** Found in its cell alone; each digging costs 10, a refused one nothing. */
    private static void digsAtEachCell() {
        for (int cells = 1; cells <= 12; cells++) {
            for (char way : new char[] {'s', 'f'}) {
                int length = cells;
                int gone = (cells - 1) / 2;
                Tubepost x = sent(cells, way, 100 - gone);
                x.pass(8);
                int cell = way == 's' ? gone : cells - 1 - gone;
                long spent = 0;
                for (int i = 0; i < cells; i++) {
                    if (i != cell) {
                        Check.is("not in the cell " + i, false, x.dig(0, i));
                        spent -= 10;
                        Check.is("still there", 100 + cell, x.placeOf(0));
                    }
                }
                Check.throwsIt(x, "below the cells", IndexOutOfBoundsException.class, () -> x.dig(0, -1));
                Check.throwsIt(x, "beyond the cells", IndexOutOfBoundsException.class, () -> x.dig(0, length));
                Check.is("spent", spent, x.earned());
                Check.is("in its cell", true, x.dig(0, cell));
                Check.is("spent", spent - 10, x.earned());
                Check.is("at the first station", 0, x.placeOf(0));
                Check.is("half of its wear", 50, x.wear(0, 0));
                Check.is("entry", "d0@9:0", Nets.logFrom(x, 2));
                Check.is("no more", false, x.dig(0, cell));
                Check.is("spent", spent - 20, x.earned());
            }
        }
    }

    private static void digsOnlyWhatSticks() {
        for (int wear = 97; wear <= 100; wear++) {
            Tubepost x = sent(12, 's', 0);
            x.wear(0, wear);
            Check.is("wear " + wear, wear == 100, x.dig(0, 0));
            Check.is("place", wear == 100 ? 0 : 100, x.placeOf(0));
            Check.is("wear then", wear == 100 ? 50 : wear, x.wear(0, 0));
            Check.is("entries", wear == 100 ? 3 : 2, x.entries());
        }
    }

    /** A mail in which much goes on. */
    private static Tubepost busy() {
        Tubepost x = Nets.stations(4, 2);
        x.setPower(60);
        for (int i = 0; i < 8; i++) {
            x.tube(i % 4, (i + 1) % 4, 1 + i);
            x.blow(i, i < 4 ? 's' : 'f');
            x.setTube(i, i % 3, i);
        }
        for (int i = 0; i < 4; i++) {
            x.setWay(i, (i + 1) % 4, i);
            x.setWay(i, (i + 2) % 4, i);
            x.setWay(i, (i + 3) % 4, 4 + (i + 3) % 4);
        }
        for (int i = 0; i < 12; i++) {
            x.carrier(i % 4);
            x.wear(i, 7 * i);
        }
        for (int i = 0; i < 60; i++) {
            x.accept(i % 4, (i + 1 + i / 4 % 3) % 4, i % 3, 1 + i % 9);
        }
        return x;
    }

    /** So many ticks at once are as many ticks one by one. */
    private static void ticksAtOnce() {
        Tubepost single = busy();
        for (int ticks = 1; ticks <= 48; ticks++) {
            Tubepost x = busy();
            single.pass(1);
            Check.is("tick", ticks, x.pass(ticks));
            Check.is(ticks + " at once", State.of(single), State.of(x));
        }
        Check.is("much went on", true, single.entries() > 150);
    }

    /** Stamps, the log, the gap and the hours near the last tick that 512 calls can reach. */
    private static void ticksFarOn() {
        Tubepost x = Nets.pair(2, 1);
        int tick = 48 * 495;
        for (int i = 0; i < 495; i++) {
            x.pass(48);
        }
        x.setHours(0, 0, 1);
        x.carrier(0);
        Check.is("open", 3, x.accept(0, 1, 0, 1));
        Check.is("tick", tick + 2, x.pass(2));
        Check.is("first stamp", tick, x.stamp(0, false));
        Check.is("second stamp", tick + 1, x.stamp(0, true));
        Check.is("log", "a0@" + tick + ":0 p0@" + tick + ":0 i0@" + tick + ":0 o0@" + (tick + 1) + ":1 e0@"
                + (tick + 1) + ":1", Nets.log(x));
        Check.is("mean", 1.0, x.meanTime());
        Check.is("used", tick + 2, x.air('u'));
        Check.is("left", 499, x.air('r'));
        Check.is("made", tick + 2 + 399, x.air('m'));
    }
}
