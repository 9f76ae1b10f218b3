import java.util.ArrayDeque;
import java.util.ArrayList;
import java.util.Comparator;
import java.util.List;
import java.util.NoSuchElementException;

/**
 * The document once more, in another and slower form: nothing is kept that can be looked for anew.
 * Random runs compare the class with it.
 */
final class Model {
    static final class Stop {
        int clerk;
        int from = 0;
        int to = 24;
        int[] told = {-1, -1, -1, -1, -1, -1, -1, -1};
    }

    static final class Pipe {
        int first;
        int second;
        int cells;
        char way = '-';
        int leak;
        int water;
        int gap = 2;
        int draught;
        Integer lastIn = null;
    }

    static final class Box {
        int number;
        int station;
        int tube = -1;
        int cell;
        int since;
        int wear;
        int dial = -1;
        boolean order;
    }

    static final class Parcel {
        int number;
        int from;
        int to;
        int rank;
        int weight;
        int price;
        int first;
        int second = -1;
        Box in = null;
        boolean claimed;
    }

    record Entry(char letter, int tick, int carrier, int place) {
    }

    final List<Stop> stops = new ArrayList<>();
    final List<Pipe> pipes = new ArrayList<>();
    final List<Box> boxes = new ArrayList<>();
    final List<Parcel> parcels = new ArrayList<>();
    final List<Entry> log = new ArrayList<>();
    int tick = 0;
    int arrivals = 0;
    int power = 20;
    int stored = 100;
    int made = 0;
    int used = 0;
    int lost = 0;
    long sum = 0;

    private static void out(boolean wrong) {
        if (wrong) {
            throw new IndexOutOfBoundsException();
        }
    }

    private static void bad(boolean wrong) {
        if (wrong) {
            throw new IllegalArgumentException();
        }
    }

    private static void notNow(boolean wrong) {
        if (wrong) {
            throw new IllegalStateException();
        }
    }

    private static void none(boolean wrong) {
        if (wrong) {
            throw new NoSuchElementException();
        }
    }

    private static boolean beyond(int index, List<?> list) {
        return index < 0 || index >= list.size();
    }

    int station(int clerk) {
        bad(clerk < 1 || clerk > 3);
        notNow(stops.size() == 8);
        Stop s = new Stop();
        s.clerk = clerk;
        stops.add(s);
        return stops.size() - 1;
    }

    int setHours(int station, int from, int to) {
        out(beyond(station, stops));
        bad(from < 0 || from > 23 || to <= from || to > 24);
        int before = stops.get(station).from;
        stops.get(station).from = from;
        stops.get(station).to = to;
        return before;
    }

    int tube(int first, int second, int cells) {
        out(beyond(first, stops) || beyond(second, stops));
        bad(first == second || cells < 1 || cells > 12);
        notNow(pipes.size() == 14);
        Pipe p = new Pipe();
        p.first = first;
        p.second = second;
        p.cells = cells;
        pipes.add(p);
        return pipes.size() - 1;
    }

    char blow(int tube, char way) {
        out(beyond(tube, pipes));
        bad("sf-".indexOf(way) < 0);
        Pipe p = pipes.get(tube);
        notNow(way != p.way && boxes.stream().anyMatch(b -> b.tube == tube));
        char before = p.way;
        p.way = way;
        return before;
    }

    int setTube(int tube, int leak, int water) {
        out(beyond(tube, pipes));
        bad(leak < 0 || leak > 9 || water < 0 || water > 9);
        Pipe p = pipes.get(tube);
        int before = p.leak * 10 + p.water;
        p.leak = leak;
        p.water = water;
        return before;
    }

    int setGap(int tube, int gap) {
        out(beyond(tube, pipes));
        bad(gap < 0 || gap > 20);
        int before = pipes.get(tube).gap;
        pipes.get(tube).gap = gap;
        return before;
    }

    int setPower(int newPower) {
        bad(newPower < 0 || newPower > 200);
        int before = power;
        power = newPower;
        return before;
    }

    int setWay(int station, int other, int tube) {
        out(beyond(station, stops) || beyond(other, stops) || tube != -1 && beyond(tube, pipes));
        bad(station == other);
        int before = stops.get(station).told[other];
        stops.get(station).told[other] = tube;
        return before;
    }

    /** By a search from the other station; -1 if it cannot be reached. */
    private int distance(int station, int other) {
        int[] far = new int[stops.size()];
        java.util.Arrays.fill(far, -1);
        far[other] = 0;
        ArrayDeque<Integer> next = new ArrayDeque<>(List.of(other));
        while (!next.isEmpty()) {
            int here = next.remove();
            for (Pipe p : pipes) {
                int there = p.first == here ? p.second : p.second == here ? p.first : here;
                if (far[there] < 0) {
                    far[there] = far[here] + 1;
                    next.add(there);
                }
            }
        }
        return far[station];
    }

    private int way(int station, int other) {
        int told = stops.get(station).told[other];
        if (told >= 0 && (pipes.get(told).first == station || pipes.get(told).second == station)) {
            return told;
        }
        int best = -1;
        int bestFar = 99;
        for (int i = 0; i < pipes.size(); i++) {
            Pipe p = pipes.get(i);
            if (p.first == station || p.second == station) {
                int far = distance(p.first == station ? p.second : p.first, other);
                if (far >= 0 && far < bestFar) {
                    best = i;
                    bestFar = far;
                }
            }
        }
        return best;
    }

    int wayOf(int station, int other) {
        out(beyond(station, stops) || beyond(other, stops));
        none(station == other || way(station, other) < 0);
        return way(station, other);
    }

    int draught(int tube) {
        out(beyond(tube, pipes));
        return pipes.get(tube).draught;
    }

    int air(char what) {
        bad("rmul".indexOf(what) < 0);
        return what == 'r' ? stored : what == 'm' ? made : what == 'u' ? used : lost;
    }

    int carrier(int station) {
        out(beyond(station, stops));
        notNow(boxes.size() == 12);
        Box b = new Box();
        b.number = boxes.size();
        boxes.add(b);
        comesTo(b, station, 'a');
        return b.number;
    }

    private void comesTo(Box b, int station, char letter) {
        b.station = station;
        b.tube = -1;
        b.since = arrivals++;
        log.add(new Entry(letter, tick, b.number, station));
    }

    int dial(int carrier, int station) {
        out(beyond(carrier, boxes) || station != -1 && beyond(station, stops));
        notNow(boxes.get(carrier).tube >= 0);
        int before = boxes.get(carrier).dial;
        boxes.get(carrier).dial = station;
        return before;
    }

    int grease(int carrier) {
        out(beyond(carrier, boxes));
        notNow(boxes.get(carrier).tube >= 0);
        int before = boxes.get(carrier).wear;
        boxes.get(carrier).wear = 0;
        return before;
    }

    int wear(int carrier, int by) {
        out(beyond(carrier, boxes));
        bad(by < 0 || by > 100);
        Box b = boxes.get(carrier);
        b.wear = Math.min(100, b.wear + by);
        return b.wear;
    }

    boolean order(int carrier) {
        out(beyond(carrier, boxes));
        boolean before = boxes.get(carrier).order;
        boxes.get(carrier).order = true;
        return before;
    }

    int placeOf(int carrier) {
        out(beyond(carrier, boxes));
        Box b = boxes.get(carrier);
        return b.tube < 0 ? b.station : 100 * b.tube + 100 + b.cell;
    }

    int placeByLog(int carrier) {
        out(beyond(carrier, boxes));
        int place = -1;
        for (Entry e : log) {
            if (e.carrier == carrier) {
                place = e.letter == 'i' ? 100 * e.place + 100 : e.place;
            }
        }
        return place;
    }

    int dialOf(int carrier) {
        out(beyond(carrier, boxes));
        return boxes.get(carrier).dial;
    }

    private List<Parcel> itemsIn(Box b) {
        return parcels.stream().filter(p -> p.in == b && p.second < 0).toList();
    }

    private int weight(Box b) {
        return itemsIn(b).stream().mapToInt(p -> p.weight).sum();
    }

    private int rank(Box b) {
        return itemsIn(b).stream().mapToInt(p -> p.rank).max().orElse(0);
    }

    int weightOf(int carrier) {
        out(beyond(carrier, boxes));
        return weight(boxes.get(carrier));
    }

    char why(int carrier) {
        out(beyond(carrier, boxes));
        Box b = boxes.get(carrier);
        if (b.tube >= 0) {
            return 't';
        }
        if (b.dial < 0 || b.dial == b.station) {
            return 'd';
        }
        int way = way(b.station, b.dial);
        if (way < 0) {
            return 'n';
        }
        Pipe p = pipes.get(way);
        boolean forth = p.first == b.station;
        if (p.way != (forth ? 's' : 'f')) {
            return 'w';
        }
        if (at(way, forth ? 0 : p.cells - 1) != null) {
            return 'c';
        }
        return p.lastIn != null && tick - p.lastIn < p.gap && !b.order ? 'g' : '-';
    }

    private Box at(int tube, int cell) {
        return boxes.stream().filter(b -> b.tube == tube && b.cell == cell).findFirst().orElse(null);
    }

    private boolean open(int station) {
        return stops.get(station).from <= tick % 24 && tick % 24 < stops.get(station).to;
    }

    int accept(int from, int to, int rank, int weight) {
        out(beyond(from, stops) || beyond(to, stops));
        bad(from == to || rank < 0 || rank > 2 || weight < 1 || weight > 9);
        none(distance(from, to) < 0);
        notNow(!open(from) || parcels.size() == 60);
        Parcel p = new Parcel();
        p.number = parcels.size();
        p.from = from;
        p.to = to;
        p.rank = rank;
        p.weight = weight;
        p.first = tick;
        p.price = (2 + weight * distance(from, to)) * new int[] {1, 2, 0}[rank];
        parcels.add(p);
        sum += p.price;
        return p.price;
    }

    char itemState(int item) {
        out(beyond(item, parcels));
        Parcel p = parcels.get(item);
        return p.second >= 0 ? 'd' : p.in != null ? 'c' : 'w';
    }

    int stamp(int item, boolean ofDelivery) {
        out(beyond(item, parcels));
        none(ofDelivery && parcels.get(item).second < 0);
        return ofDelivery ? parcels.get(item).second : parcels.get(item).first;
    }

    private boolean late(Parcel p) {
        return p.second >= 0 && p.second - p.first + 1 > new int[] {20, 10, 6}[p.rank];
    }

    int claim(int item) {
        out(beyond(item, parcels));
        Parcel p = parcels.get(item);
        none(p.second < 0);
        notNow(!late(p) || p.claimed);
        p.claimed = true;
        int back = p.price / 2 + p.price % 2;
        sum -= back;
        return back;
    }

    long earned() {
        return sum;
    }

    private Box stuck(int tube) {
        out(beyond(tube, pipes));
        Box found = boxes.stream().filter(b -> b.tube == tube && b.wear == 100).findFirst().orElse(null);
        none(found == null);
        return found;
    }

    int sound(int tube) {
        return stuck(tube).cell + 1 - tick % 3;
    }

    int pressure(int tube) {
        Box b = stuck(tube);
        return b.cell + (tick + b.number) % 4 - 2;
    }

    boolean dig(int tube, int cell) {
        out(beyond(tube, pipes) || cell < 0 || cell >= pipes.get(tube).cells);
        sum -= 10;
        Box b = at(tube, cell);
        if (b == null || b.wear < 100) {
            return false;
        }
        b.wear = 50;
        comesTo(b, pipes.get(tube).first, 'd');
        return true;
    }

    int pass(int ticks) {
        bad(ticks < 1 || ticks > 48);
        for (int i = 0; i < ticks; i++) {
            blowers();
            moving();
            for (int s = 0; s < stops.size(); s++) {
                for (int k = 0; k < stops.get(s).clerk && open(s); k++) {
                    boolean did = empties(s) || sends(s) || packs(s);
                    if (!did) {
                        break;
                    }
                }
            }
            tick++;
        }
        return tick;
    }

    private void blowers() {
        int more = Math.min(power, 500 - stored);
        made += more;
        stored += more;
        for (Pipe p : pipes) {
            int need = 1 + p.leak + p.water + p.cells / 3;
            p.draught = p.way == '-' || stored == 0 ? 0 : stored < need ? 1 : 2;
            int taken = p.draught == 2 ? need : p.draught;
            int leaked = p.draught == 2 ? p.leak : 0;
            stored -= taken;
            lost += leaked;
            used += taken - leaked;
        }
    }

    private void moving() {
        for (int t = 0; t < pipes.size(); t++) {
            Pipe p = pipes.get(t);
            int tube = t;
            int step = p.way == 's' ? 1 : -1;
            List<Box> inside = new ArrayList<>(boxes.stream().filter(b -> b.tube == tube).toList());
            inside.sort(Comparator.comparingInt(b -> -step * b.cell));
            for (Box b : inside) {
                int speed = Math.max(0, p.draught - (b.wear > 60 || weight(b) > 6 ? 1 : 0));
                while (speed > 0 && b.tube >= 0 && b.wear < 100) {
                    int next = b.cell + step;
                    if (next < 0 || next >= p.cells) {
                        comesTo(b, step > 0 ? p.second : p.first, 'o');
                    } else if (at(t, next) == null) {
                        b.cell = next;
                        b.wear = Math.min(100, b.wear + (p.water > 4 ? 2 : 1));
                    } else {
                        break;
                    }
                    speed--;
                }
            }
        }
    }

    private List<Box> waiting(int station) {
        List<Box> found = new ArrayList<>(boxes.stream().filter(b -> b.tube < 0 && b.station == station).toList());
        found.sort(Comparator.comparingInt(b -> b.since));
        return found;
    }

    private boolean empties(int s) {
        for (Box b : waiting(s)) {
            if (b.dial == s || itemsIn(b).stream().anyMatch(p -> p.to == s)) {
                itemsIn(b).stream().filter(p -> p.to == s).forEach(p -> p.second = tick);
                b.dial = itemsIn(b).isEmpty() ? -1 : itemsIn(b).get(0).to;
                log.add(new Entry('e', tick, b.number, s));
                return true;
            }
        }
        return false;
    }

    private boolean sends(int s) {
        List<Box> byRank = waiting(s);
        byRank.sort(Comparator.comparingInt(b -> -rank(b)));
        for (Box b : byRank) {
            if (why(b.number) == '-') {
                int way = way(s, b.dial);
                Pipe p = pipes.get(way);
                b.tube = way;
                b.cell = p.first == s ? 0 : p.cells - 1;
                b.order = false;
                p.lastIn = tick;
                log.add(new Entry('i', tick, b.number, way));
                return true;
            }
        }
        return false;
    }

    private boolean packs(int s) {
        List<Parcel> here = new ArrayList<>(
                parcels.stream().filter(p -> p.in == null && p.second < 0 && p.from == s).toList());
        here.sort(Comparator.comparingInt(p -> -p.rank));
        for (Box b : waiting(s)) {
            if (b.dial == -1 && itemsIn(b).isEmpty() && !here.isEmpty()) {
                b.dial = here.get(0).to;
                for (Parcel p : here) {
                    if (p.to == b.dial && weight(b) + p.weight <= 9) {
                        p.in = b;
                    }
                }
                log.add(new Entry('p', tick, b.number, s));
                return true;
            }
        }
        return false;
    }

    int entries() {
        return log.size();
    }

    char entryAt(int index) {
        out(beyond(index, log));
        return log.get(index).letter;
    }

    int entryOf(int index, char what) {
        out(beyond(index, log));
        bad("tcp".indexOf(what) < 0);
        Entry e = log.get(index);
        return what == 't' ? e.tick : what == 'c' ? e.carrier : e.place;
    }

    private float delivered() {
        float count = parcels.stream().filter(p -> p.second >= 0).count();
        if (count == 0) {
            throw new ArithmeticException();
        }
        return count;
    }

    float lateShare() {
        return parcels.stream().filter(this::late).count() / delivered();
    }

    double meanTime() {
        double count = delivered();
        return parcels.stream().filter(p -> p.second >= 0).mapToInt(p -> p.second - p.first).sum() / count;
    }

    boolean isSound() {
        boolean where = boxes.stream().allMatch(b -> placeByLog(b.number) == placeOf(b.number) / 100 * 100
                || b.tube < 0 && placeByLog(b.number) == b.station);
        long places = boxes.stream().filter(b -> b.tube >= 0).map(b -> placeOf(b.number)).distinct().count();
        return 100 + made == stored + used + lost && where
                && places == boxes.stream().filter(b -> b.tube >= 0).count();
    }
}
