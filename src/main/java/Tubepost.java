import java.util.ArrayList;
import java.util.NoSuchElementException;

/**
 * A city's pneumatic mail: stations with clerks, tubes that are blown one way or the other, air that
 * is made, stored, used and lost, carriers that wear, stick and cannot pass one another, items with
 * ranks, tariffs and stamps, and a log from which the places of the carriers can be told again. What
 * each call takes, answers and throws is told by the promises of the document.
 */
public final class Tubepost {
    private static final int NONE = -1;
    private static final int MOST_STATIONS = 8;
    private static final int MOST_THINGS = 3;
    private static final int HOURS = 24;
    private static final int MOST_TUBES = 14;
    private static final int MOST_CELLS = 12;
    private static final int MOST_LEAK = 9;
    private static final int MOST_WATER = 9;
    private static final int MOST_GAP = 20;
    private static final int MOST_POWER = 200;
    private static final int MOST_CARRIERS = 12;
    private static final int MOST_WEAR = 100;
    private static final int MOST_LOAD = 9;
    private static final int MOST_ITEMS = 60;
    private static final int MOST_RANK = 2;
    private static final int MOST_TICKS = 48;
    private static final int DIGGING_COST = 10;

    private final ArrayList<Station> stations = new ArrayList<>();
    private final ArrayList<Tube> tubes = new ArrayList<>();
    private final ArrayList<Carrier> carriers = new ArrayList<>();
    private final ArrayList<Item> items = new ArrayList<>();
    private final Ways ways = new Ways();
    private final Receiver receiver = new Receiver();
    private final Log log = new Log();
    private int tick = 0;
    private long balance = 0L;

    public Tubepost() {
    }

    // ---- net

    public int station(int clerk) throws IllegalArgumentException, IllegalStateException {
        if (clerk < 1 || clerk > MOST_THINGS) {
            throw new IllegalArgumentException("no such clerk");
        }
        if (stations.size() >= MOST_STATIONS) {
            throw new IllegalStateException("no more stations");
        }
        Station added = new Station(stations.size(), clerk);
        stations.add(added);
        return added.number;
    }

    public int setHours(int station, int from, int to) throws IndexOutOfBoundsException, IllegalArgumentException {
        Station changed = stationAt(station);
        if (from < 0 || from >= HOURS || to <= from || to > HOURS) {
            throw new IllegalArgumentException("no such hours");
        }
        int before = changed.opens;
        changed.opens = from;
        changed.closes = to;
        return before;
    }

    public int tube(int first, int second, int cells)
            throws IndexOutOfBoundsException, IllegalArgumentException, IllegalStateException {
        Station start = stationAt(first);
        Station end = stationAt(second);
        if (first == second || cells < 1 || cells > MOST_CELLS) {
            throw new IllegalArgumentException("no such tube can be laid");
        }
        if (tubes.size() >= MOST_TUBES) {
            throw new IllegalStateException("no more tubes");
        }
        Tube added = new Tube(tubes.size(), start, end, cells);
        tubes.add(added);
        ways.join(first, second);
        return added.number;
    }

    public char blow(int tube, char way)
            throws IndexOutOfBoundsException, IllegalArgumentException, IllegalStateException {
        Tube blown = tubeAt(tube);
        if (way != 's' && way != 'f' && way != '-') {
            throw new IllegalArgumentException("no such way to blow");
        }
        if (blown.inside > 0 && way != blown.blownTo) {
            throw new IllegalStateException("a carrier is in the tube");
        }
        char before = blown.blownTo;
        blown.blownTo = way;
        return before;
    }

    public int setTube(int tube, int leak, int water) throws IndexOutOfBoundsException, IllegalArgumentException {
        Tube changed = tubeAt(tube);
        if (leak < 0 || leak > MOST_LEAK || water < 0 || water > MOST_WATER) {
            throw new IllegalArgumentException("no such leak or water");
        }
        int before = 10 * changed.leak + changed.water;
        changed.leak = leak;
        changed.water = water;
        return before;
    }

    public int setGap(int tube, int gap) throws IndexOutOfBoundsException, IllegalArgumentException {
        Tube changed = tubeAt(tube);
        if (gap < 0 || gap > MOST_GAP) {
            throw new IllegalArgumentException("no such gap");
        }
        int before = changed.gap;
        changed.gap = gap;
        return before;
    }

    public int setPower(int power) throws IllegalArgumentException {
        if (power < 0 || power > MOST_POWER) {
            throw new IllegalArgumentException("no such power");
        }
        int before = receiver.power;
        receiver.power = power;
        return before;
    }

    public int setWay(int station, int other, int tube) throws IndexOutOfBoundsException, IllegalArgumentException {
        needStations(station, other);
        if (tube < NONE || tube >= tubes.size()) {
            throw new IndexOutOfBoundsException("no such tube");
        }
        if (station == other) {
            throw new IllegalArgumentException("both stations are the same");
        }
        return ways.tell(station, other, tube);
    }

    public int wayOf(int station, int other) throws IndexOutOfBoundsException, NoSuchElementException {
        needStations(station, other);
        Tube next = nextTube(station, other);
        if (next == null) {
            throw new NoSuchElementException("no way");
        }
        return next.number;
    }

    public int draught(int tube) throws IndexOutOfBoundsException {
        return tubeAt(tube).pull;
    }

    public int air(char what) throws IllegalArgumentException {
        if (what == 'r') {
            return receiver.stored;
        }
        if (what == 'm') {
            return receiver.made;
        }
        if (what == 'u') {
            return receiver.used;
        }
        if (what == 'l') {
            return receiver.lost;
        }
        throw new IllegalArgumentException("no such thing of the air");
    }

    // ---- carriers

    public int carrier(int station) throws IndexOutOfBoundsException, IllegalStateException {
        Station home = stationAt(station);
        if (carriers.size() >= MOST_CARRIERS) {
            throw new IllegalStateException("no more carriers");
        }
        Carrier added = new Carrier(carriers.size(), home);
        carriers.add(added);
        home.waiting.add(added);
        log.write('a', tick, added.number, home.number);
        return added.number;
    }

    public int dial(int carrier, int station) throws IndexOutOfBoundsException, IllegalStateException {
        Carrier changed = carrierAt(carrier);
        if (station < NONE || station >= stations.size()) {
            throw new IndexOutOfBoundsException("no such station");
        }
        if (changed.tube != null) {
            throw new IllegalStateException("the carrier is in a tube");
        }
        int before = changed.address;
        changed.address = station;
        return before;
    }

    public int grease(int carrier) throws IndexOutOfBoundsException, IllegalStateException {
        Carrier greased = carrierAt(carrier);
        if (greased.tube != null) {
            throw new IllegalStateException("the carrier is in a tube");
        }
        int before = greased.worn;
        greased.worn = 0;
        return before;
    }

    public int wear(int carrier, int by) throws IndexOutOfBoundsException, IllegalArgumentException {
        Carrier changed = carrierAt(carrier);
        if (by < 0 || by > MOST_WEAR) {
            throw new IllegalArgumentException("no such wear");
        }
        changed.addWear(by);
        return changed.worn;
    }

    public boolean order(int carrier) throws IndexOutOfBoundsException {
        Carrier ordered = carrierAt(carrier);
        boolean before = ordered.hasOrder;
        ordered.hasOrder = true;
        return before;
    }

    public int placeOf(int carrier) throws IndexOutOfBoundsException {
        Carrier asked = carrierAt(carrier);
        return asked.tube == null ? asked.placeWithoutCell() : asked.placeWithoutCell() + asked.cell;
    }

    public int placeByLog(int carrier) throws IndexOutOfBoundsException {
        return log.placeToldOf(carrierAt(carrier).number);
    }

    public int dialOf(int carrier) throws IndexOutOfBoundsException {
        return carrierAt(carrier).address;
    }

    public int weightOf(int carrier) throws IndexOutOfBoundsException {
        return carrierAt(carrier).load;
    }

    public char why(int carrier) throws IndexOutOfBoundsException {
        return reasonToStay(carrierAt(carrier));
    }

    // ---- items

    public int accept(int from, int to, int rank, int weight) throws IndexOutOfBoundsException,
            IllegalArgumentException, NoSuchElementException, IllegalStateException {
        Station start = stationAt(from);
        Station end = stationAt(to);
        if (from == to || rank < 0 || rank > MOST_RANK || weight < 1 || weight > MOST_LOAD) {
            throw new IllegalArgumentException("no such item is taken");
        }
        if (!ways.areJoined(from, to)) {
            throw new NoSuchElementException("no tubes lead there");
        }
        if (!start.isOpenIn(tick) || items.size() >= MOST_ITEMS) {
            throw new IllegalStateException("nothing is accepted");
        }
        Item accepted = new Item(items.size(), start, end, rank, weight);
        accepted.acceptedIn = tick;
        accepted.price = priceOf(rank, weight, ways.fewestBetween(from, to));
        items.add(accepted);
        start.itemsWaiting++;
        balance += accepted.price;
        return accepted.price;
    }

    public char itemState(int item) throws IndexOutOfBoundsException {
        return itemAt(item).state;
    }

    public int stamp(int item, boolean ofDelivery) throws IndexOutOfBoundsException, NoSuchElementException {
        Item asked = itemAt(item);
        if (!ofDelivery) {
            return asked.acceptedIn;
        }
        if (asked.state != 'd') {
            throw new NoSuchElementException("not stamped so");
        }
        return asked.deliveredIn;
    }

    public int claim(int item) throws IndexOutOfBoundsException, NoSuchElementException, IllegalStateException {
        Item asked = itemAt(item);
        if (asked.state != 'd') {
            throw new NoSuchElementException("not delivered");
        }
        if (!asked.isLate() || asked.claimed) {
            throw new IllegalStateException("nothing to claim");
        }
        int paid = (asked.price + 1) / 2;
        asked.claimed = true;
        balance -= paid;
        return paid;
    }

    public long earned() {
        return balance;
    }

    // ---- blocked tubes, ticks, log

    public int sound(int tube) throws IndexOutOfBoundsException, NoSuchElementException {
        Carrier stuck = lowestStuckIn(tubeAt(tube));
        if (stuck == null) {
            throw new NoSuchElementException("none sticks there");
        }
        return stuck.cell + 1 - tick % 3;
    }

    public int pressure(int tube) throws IndexOutOfBoundsException, NoSuchElementException {
        Carrier stuck = lowestStuckIn(tubeAt(tube));
        if (stuck == null) {
            throw new NoSuchElementException("none sticks there");
        }
        return stuck.cell + (tick + stuck.number) % 4 - 2;
    }

    public boolean dig(int tube, int cell) throws IndexOutOfBoundsException {
        Tube dug = tubeAt(tube);
        if (!dug.hasCell(cell)) {
            throw new IndexOutOfBoundsException("no such cell");
        }
        balance -= DIGGING_COST;
        Carrier found = dug.carrierIn(cell);
        if (found == null || !found.isStuck()) {
            return false;
        }
        found.worn = found.worn / 2;
        takeOut(found, dug, dug.first, 'd');
        return true;
    }

    public int pass(int ticks) throws IllegalArgumentException {
        if (ticks < 1 || ticks > MOST_TICKS) {
            throw new IllegalArgumentException("no such number of ticks");
        }
        for (int i = 0; i < ticks; i++) {
            drawAir();
            moveCarriers();
            workAsClerks();
            tick++;
        }
        return tick;
    }

    public int entries() {
        return log.size;
    }

    public char entryAt(int index) throws IndexOutOfBoundsException {
        needEntry(index);
        return log.letterAt(index);
    }

    public int entryOf(int index, char what) throws IndexOutOfBoundsException, IllegalArgumentException {
        needEntry(index);
        if (what == 't') {
            return log.tickAt(index);
        }
        if (what == 'c') {
            return log.carrierNumberAt(index);
        }
        if (what == 'p') {
            return log.placeAt(index);
        }
        throw new IllegalArgumentException("no such thing of an entry");
    }

    public float lateShare() throws ArithmeticException {
        int delivered = countDelivered();
        if (delivered == 0) {
            throw new ArithmeticException("none delivered");
        }
        int late = 0;
        for (int i = 0; i < items.size(); i++) {
            if (items.get(i).isLate()) {
                late++;
            }
        }
        return (float) late / (float) delivered;
    }

    public double meanTime() throws ArithmeticException {
        int delivered = countDelivered();
        if (delivered == 0) {
            throw new ArithmeticException("none delivered");
        }
        int sum = 0;
        for (int i = 0; i < items.size(); i++) {
            Item item = items.get(i);
            if (item.state == 'd') {
                sum += item.deliveredIn - item.acceptedIn;
            }
        }
        return (double) sum / (double) delivered;
    }

    public boolean isSound() {
        return receiver.isBalanced() && noTwoInOneCell() && allWhereTheLogTells();
    }

    // ---- what the calls look up

    private Station stationAt(int number) {
        if (number < 0 || number >= stations.size()) {
            throw new IndexOutOfBoundsException("no such station");
        }
        return stations.get(number);
    }

    private void needStations(int one, int other) {
        stationAt(one);
        stationAt(other);
    }

    private Tube tubeAt(int number) {
        if (number < 0 || number >= tubes.size()) {
            throw new IndexOutOfBoundsException("no such tube");
        }
        return tubes.get(number);
    }

    private Carrier carrierAt(int number) {
        if (number < 0 || number >= carriers.size()) {
            throw new IndexOutOfBoundsException("no such carrier");
        }
        return carriers.get(number);
    }

    private Item itemAt(int number) {
        if (number < 0 || number >= items.size()) {
            throw new IndexOutOfBoundsException("no such item");
        }
        return items.get(number);
    }

    private void needEntry(int index) {
        if (index < 0 || index >= log.size) {
            throw new IndexOutOfBoundsException("no such entry");
        }
    }

    private int countDelivered() {
        int delivered = 0;
        for (int i = 0; i < items.size(); i++) {
            if (items.get(i).state == 'd') {
                delivered++;
            }
        }
        return delivered;
    }

    private static int priceOf(int rank, int weight, int fewest) {
        int price = 2 + weight * fewest;
        if (rank == 2) {
            return 0;
        }
        return rank == 1 ? 2 * price : price;
    }

    private Carrier lowestStuckIn(Tube tube) {
        for (int i = 0; i < carriers.size(); i++) {
            Carrier carrier = carriers.get(i);
            if (carrier.tube == tube && carrier.isStuck()) {
                return carrier;
            }
        }
        return null;
    }

    /** The tube to which the way leads, or null if there is no way. */
    private Tube nextTube(int station, int other) {
        int leading = ways.leadingTube(station, other);
        return leading >= 0 && leading < tubes.size() ? tubes.get(leading) : null;
    }

    private char reasonToStay(Carrier carrier) {
        if (carrier.tube != null) {
            return 't';
        }
        int here = carrier.station.number;
        if (carrier.address == NONE || carrier.address == here) {
            return 'd';
        }
        Tube tube = nextTube(here, carrier.address);
        if (tube == null) {
            return 'n';
        }
        if (!tube.isBlownAwayFrom(here)) {
            return 'w';
        }
        if (tube.carrierIn(tube.cellBeside(here)) != null) {
            return 'c';
        }
        if (tick - tube.enteredIn < tube.gap && !carrier.hasOrder) {
            return 'g';
        }
        return '-';
    }

    private boolean noTwoInOneCell() {
        for (int i = 0; i < carriers.size(); i++) {
            Carrier one = carriers.get(i);
            for (int j = i + 1; j < carriers.size(); j++) {
                Carrier other = carriers.get(j);
                if (one.tube != null && one.tube == other.tube && one.cell == other.cell) {
                    return false;
                }
            }
        }
        return true;
    }

    private boolean allWhereTheLogTells() {
        for (int i = 0; i < carriers.size(); i++) {
            Carrier carrier = carriers.get(i);
            if (log.placeToldOf(carrier.number) != carrier.placeWithoutCell()) {
                return false;
            }
        }
        return true;
    }

    // ---- a tick

    private void drawAir() {
        receiver.fill();
        for (int i = 0; i < tubes.size(); i++) {
            Tube tube = tubes.get(i);
            tube.pull = receiver.drawFor(tube);
        }
    }

    /** From the end to which a tube is blown, so that each one finds free what those ahead have left. */
    private void moveCarriers() {
        for (int i = 0; i < tubes.size(); i++) {
            Tube tube = tubes.get(i);
            int step = tube.blownTo == 's' ? 1 : -1;
            int cell = step > 0 ? tube.length - 1 : 0;
            for (int left = tube.inside > 0 ? tube.length : 0; left > 0; left--) {
                moveFrom(tube, cell, step);
                cell -= step;
            }
        }
    }

    private void moveFrom(Tube tube, int start, int step) {
        Carrier carrier = tube.carrierIn(start);
        if (carrier == null) {
            return;
        }
        for (int left = carrier.speedWith(tube.pull); left > 0 && !carrier.isStuck(); left--) {
            int next = carrier.cell + step;
            if (!tube.hasCell(next)) {
                takeOut(carrier, tube, step > 0 ? tube.second : tube.first, 'o');
                return;
            }
            if (tube.carrierIn(next) != null) {
                return;
            }
            tube.put(carrier.cell, null);
            tube.put(next, carrier);
            carrier.cell = next;
            carrier.addWear(tube.water > 4 ? 2 : 1);
        }
    }

    private void takeOut(Carrier carrier, Tube tube, Station station, char letter) {
        tube.put(carrier.cell, null);
        tube.inside--;
        carrier.tube = null;
        carrier.station = station;
        station.waiting.add(carrier);
        log.write(letter, tick, carrier.number, station.number);
    }

    private void workAsClerks() {
        for (int i = 0; i < stations.size(); i++) {
            Station station = stations.get(i);
            boolean busy = station.isOpenIn(tick);
            for (int done = 0; busy && done < station.clerk; done++) {
                busy = emptyOneAt(station) || sendOneFrom(station) || packOneAt(station);
            }
        }
    }

    private boolean emptyOneAt(Station station) {
        for (int i = 0; i < station.waiting.size(); i++) {
            Carrier carrier = station.waiting.get(i);
            if (carrier.address == station.number || carrier.hasItemFor(station)) {
                carrier.deliverAt(station, tick);
                carrier.address = carrier.addressOfFirstItem();
                log.write('e', tick, carrier.number, station.number);
                return true;
            }
        }
        return false;
    }

    /** Those that wait stand in the order of their wait, so of equal ranks the first one found stays chosen. */
    private boolean sendOneFrom(Station station) {
        int chosen = NONE;
        int chosenRank = NONE;
        for (int i = 0; i < station.waiting.size(); i++) {
            Carrier carrier = station.waiting.get(i);
            int rank = carrier.greatestRank();
            if (rank > chosenRank && reasonToStay(carrier) == '-') {
                chosen = i;
                chosenRank = rank;
            }
        }
        if (chosen < 0 || chosen >= station.waiting.size()) {
            return false;
        }
        Carrier carrier = station.waiting.get(chosen);
        Tube tube = nextTube(station.number, carrier.address);
        if (tube == null) {
            return false;
        }
        station.waiting.remove(chosen);
        putIn(carrier, tube, tube.cellBeside(station.number));
        return true;
    }

    private void putIn(Carrier carrier, Tube tube, int cell) {
        tube.put(cell, carrier);
        tube.inside++;
        tube.enteredIn = tick;
        carrier.tube = tube;
        carrier.cell = cell;
        carrier.hasOrder = false;
        log.write('i', tick, carrier.number, tube.number);
    }

    private boolean packOneAt(Station station) {
        if (station.itemsWaiting == 0) {
            return false;
        }
        for (int i = 0; i < station.waiting.size(); i++) {
            Carrier carrier = station.waiting.get(i);
            if (carrier.items.isEmpty() && carrier.address == NONE) {
                pack(carrier, station);
                return true;
            }
        }
        return false;
    }

    /** By ranks from the greatest, and by numbers within a rank; the first item taken tells the dial. */
    private void pack(Carrier carrier, Station station) {
        for (int rank = MOST_RANK; rank >= 0; rank--) {
            for (int i = 0; i < items.size(); i++) {
                Item item = items.get(i);
                if (item.rank == rank && item.waitsAt(station) && carrier.takes(item)) {
                    carrier.address = item.to.number;
                    carrier.put(item);
                    station.itemsWaiting--;
                }
            }
        }
        log.write('p', tick, carrier.number, station.number);
    }

    // ---- the things of which the mail is made

    private static final class Station {
        final int number;
        final int clerk;
        int opens = 0;
        int closes = HOURS;
        int itemsWaiting = 0;
        /** The longest wait first. */
        final ArrayList<Carrier> waiting = new ArrayList<>();

        Station(int number, int clerk) {
            this.number = number;
            this.clerk = clerk;
        }

        boolean isOpenIn(int tick) {
            int hour = tick % HOURS;
            return hour >= opens && hour < closes;
        }
    }

    private static final class Tube {
        final int number;
        final Station first;
        final Station second;
        final int length;
        private final Carrier[] cells = new Carrier[MOST_CELLS];
        char blownTo = '-';
        int leak = 0;
        int water = 0;
        int gap = 2;
        /** The draught of the last tick. */
        int pull = 0;
        int inside = 0;
        /** Far enough back that no gap hinders the first carrier. */
        int enteredIn = -MOST_GAP;

        Tube(int number, Station first, Station second, int length) {
            this.number = number;
            this.first = first;
            this.second = second;
            this.length = length;
        }

        boolean hasCell(int cell) {
            return cell >= 0 && cell < length && cell < cells.length;
        }

        Carrier carrierIn(int cell) {
            return hasCell(cell) ? cells[cell] : null;
        }

        void put(int cell, Carrier carrier) {
            if (hasCell(cell)) {
                cells[cell] = carrier;
            }
        }

        int cellBeside(int station) {
            return first.number == station ? 0 : length - 1;
        }

        boolean isBlownAwayFrom(int station) {
            return blownTo == (first.number == station ? 's' : 'f');
        }
    }

    private static final class Carrier {
        final int number;
        /** Where it waits, or waited last. */
        Station station;
        /** Null while it waits at a station. */
        Tube tube = null;
        int cell = 0;
        int worn = 0;
        int address = NONE;
        boolean hasOrder = false;
        int load = 0;
        final ArrayList<Item> items = new ArrayList<>();

        Carrier(int number, Station station) {
            this.number = number;
            this.station = station;
        }

        int placeWithoutCell() {
            return tube == null ? station.number : 100 * tube.number + 100;
        }

        boolean isStuck() {
            return tube != null && worn >= MOST_WEAR;
        }

        void addWear(int by) {
            worn = Math.min(MOST_WEAR, worn + by);
        }

        int speedWith(int draught) {
            return worn > 60 || load > 6 ? Math.max(0, draught - 1) : draught;
        }

        int greatestRank() {
            int greatest = 0;
            for (int i = 0; i < items.size(); i++) {
                greatest = Math.max(greatest, items.get(i).rank);
            }
            return greatest;
        }

        boolean hasItemFor(Station asked) {
            for (int i = 0; i < items.size(); i++) {
                if (items.get(i).to == asked) {
                    return true;
                }
            }
            return false;
        }

        /** An item goes in if it is light enough, and for the station of the items that are in already. */
        boolean takes(Item item) {
            return load + item.weight <= MOST_LOAD && (address == NONE || address == item.to.number);
        }

        void put(Item item) {
            item.state = 'c';
            load += item.weight;
            items.add(item);
        }

        /** Backwards, so that a removal does not shift what is still to be seen. */
        void deliverAt(Station asked, int tick) {
            for (int i = items.size() - 1; i >= 0; i--) {
                Item item = items.get(i);
                if (item.to == asked) {
                    items.remove(i);
                    load -= item.weight;
                    item.state = 'd';
                    item.deliveredIn = tick;
                }
            }
        }

        int addressOfFirstItem() {
            int lowest = MOST_ITEMS;
            int found = NONE;
            for (int i = 0; i < items.size(); i++) {
                Item item = items.get(i);
                if (item.number < lowest) {
                    lowest = item.number;
                    found = item.to.number;
                }
            }
            return found;
        }
    }

    private static final class Item {
        final int number;
        final Station from;
        final Station to;
        final int rank;
        final int weight;
        int price = 0;
        int acceptedIn = 0;
        int deliveredIn = NONE;
        char state = 'w';
        boolean claimed = false;

        Item(int number, Station from, Station to, int rank, int weight) {
            this.number = number;
            this.from = from;
            this.to = to;
            this.rank = rank;
            this.weight = weight;
        }

        boolean waitsAt(Station asked) {
            return state == 'w' && from == asked;
        }

        int promisedTicks() {
            if (rank == 2) {
                return 6;
            }
            return rank == 1 ? 10 : 20;
        }

        /** Both stamps count among the ticks that it took. */
        boolean isLate() {
            return state == 'd' && deliveredIn - acceptedIn + 1 > promisedTicks();
        }
    }

    /**
     * The fewest tubes between any two stations, whatever their direction, and the tubes to which the
     * ways lead. What follows from the tubes is worked out as one is added or told, since a tick asks
     * for it often.
     */
    private static final class Ways {
        /** More than any way has, and small enough that two of them can be added. */
        private static final int UNJOINED = 1000;
        private final int[] firsts = new int[MOST_TUBES];
        private final int[] seconds = new int[MOST_TUBES];
        private int size = 0;
        private final int[][] fewest = new int[MOST_STATIONS][MOST_STATIONS];
        private final int[][] told = new int[MOST_STATIONS][MOST_STATIONS];
        private final int[][] leading = new int[MOST_STATIONS][MOST_STATIONS];

        Ways() {
            for (int i = 0; i < MOST_STATIONS; i++) {
                for (int j = 0; j < MOST_STATIONS; j++) {
                    fewest[i][j] = i == j ? 0 : UNJOINED;
                    told[i][j] = NONE;
                    leading[i][j] = NONE;
                }
            }
        }

        private static boolean isPair(int one, int other) {
            return one >= 0 && one < MOST_STATIONS && other >= 0 && other < MOST_STATIONS;
        }

        int fewestBetween(int one, int other) {
            return isPair(one, other) ? fewest[one][other] : UNJOINED;
        }

        boolean areJoined(int one, int other) {
            return fewestBetween(one, other) < UNJOINED;
        }

        int leadingTube(int station, int other) {
            if (station < 0 || station >= MOST_STATIONS || other < 0 || other >= MOST_STATIONS) {
                return NONE;
            }
            return leading[station][other];
        }

        void join(int first, int second) {
            if (size >= MOST_TUBES || !isPair(first, second)) {
                return;
            }
            firsts[size] = first;
            seconds[size] = second;
            size++;
            shorten(first, second);
            for (int i = 0; i < MOST_STATIONS; i++) {
                for (int j = 0; j < MOST_STATIONS; j++) {
                    leading[i][j] = chooseTube(i, j);
                }
            }
        }

        /** A shortest way uses a new tube at most once, so one look at each pair is enough. */
        private void shorten(int one, int other) {
            for (int i = 0; i < MOST_STATIONS; i++) {
                for (int j = 0; j < MOST_STATIONS; j++) {
                    int forth = fewestBetween(i, one) + 1 + fewestBetween(other, j);
                    int back = fewestBetween(i, other) + 1 + fewestBetween(one, j);
                    fewest[i][j] = Math.min(fewest[i][j], Math.min(forth, back));
                }
            }
        }

        /** Returns the tube told before. */
        int tell(int station, int other, int tube) {
            if (!isPair(station, other)) {
                return NONE;
            }
            int before = told[station][other];
            told[station][other] = tube;
            leading[station][other] = chooseTube(station, other);
            return before;
        }

        private int chooseTube(int station, int other) {
            if (station == other || !isPair(station, other)) {
                return NONE;
            }
            if (farEnd(told[station][other], station) != NONE) {
                return told[station][other];
            }
            for (int i = 0; i < size; i++) {
                int next = farEnd(i, station);
                if (next != NONE && fewestBetween(next, other) == fewest[station][other] - 1) {
                    return i;
                }
            }
            return NONE;
        }

        /** The station at the other end of a tube, or -1 if the tube is not one of the station. */
        private int farEnd(int tube, int station) {
            if (tube < 0 || tube >= size) {
                return NONE;
            }
            if (firsts[tube] == station) {
                return seconds[tube];
            }
            return seconds[tube] == station ? firsts[tube] : NONE;
        }
    }

    /** The receiver and the blowers that fill it. */
    private static final class Receiver {
        private static final int AT_FIRST = 100;
        private static final int MOST = 500;
        int power = 20;
        int stored = AT_FIRST;
        int made = 0;
        int used = 0;
        int lost = 0;

        void fill() {
            int more = Math.min(power, MOST - stored);
            stored += more;
            made += more;
        }

        /** Takes the air for a tube in a tick, and returns the draught that it gives. */
        int drawFor(Tube tube) {
            if (tube.blownTo == '-') {
                return 0;
            }
            int wanted = 1 + tube.leak + tube.water + tube.length / 3;
            if (stored >= wanted) {
                stored -= wanted;
                lost += tube.leak;
                used += wanted - tube.leak;
                return 2;
            }
            if (stored >= 1) {
                stored -= 1;
                used += 1;
                return 1;
            }
            return 0;
        }

        boolean isBalanced() {
            return AT_FIRST + made == stored + used + lost;
        }
    }

    /** An entry is one number: tick, carrier, place and letter, so that a long run's log stays small. */
    private static final class Log {
        /**
         * 512 calls of 48 ticks, in each of which 12 carriers come out of a tube and go into one, are
         * 589,824 entries; items, dials and diggings add less than 2,000. A log beyond that is past the
         * object's 512th call, and is not kept.
         */
        private static final int MOST_PAGES = 600;
        private final Page[] pages = new Page[MOST_PAGES];
        /** Each carrier's newest entry. */
        private final int[] newest = new int[MOST_CARRIERS];
        int size = 0;

        void write(char letter, int tick, int carrier, int place) {
            int page = size / Page.ROWS;
            if (page >= MOST_PAGES || carrier < 0 || carrier >= MOST_CARRIERS) {
                return;
            }
            if (pages[page] == null) {
                pages[page] = new Page();
            }
            int entry = tick << 16 | carrier << 12 | place << 8 | letter;
            pages[page].rows[size % Page.ROWS] = entry;
            newest[carrier] = entry;
            size++;
        }

        private int entryIn(int index) {
            if (index < 0 || index >= size || index / Page.ROWS >= MOST_PAGES) {
                return 0;
            }
            Page page = pages[index / Page.ROWS];
            return page == null ? 0 : page.rows[index % Page.ROWS];
        }

        char letterAt(int index) {
            return letterWithin(entryIn(index));
        }

        int tickAt(int index) {
            return entryIn(index) >>> 16;
        }

        int carrierNumberAt(int index) {
            return entryIn(index) >>> 12 & 15;
        }

        int placeAt(int index) {
            return placeWithin(entryIn(index));
        }

        private static char letterWithin(int entry) {
            return (char) (entry & 255);
        }

        private static int placeWithin(int entry) {
            return entry >>> 8 & 15;
        }

        /** Where the newest entry of a carrier tells it to be, without the cell. */
        int placeToldOf(int carrier) {
            int entry = carrier >= 0 && carrier < MOST_CARRIERS ? newest[carrier] : 0;
            return letterWithin(entry) == 'i' ? 100 * placeWithin(entry) + 100 : placeWithin(entry);
        }
    }

    private static final class Page {
        static final int ROWS = 1024;
        final int[] rows = new int[ROWS];
    }
}
