import java.lang.reflect.Field;
import java.util.List;

/** Promises 28 to 34 and 37: blocked tubes, ticks and the log. */
public final class LogTest {
    private static final Class<IndexOutOfBoundsException> OUT = IndexOutOfBoundsException.class;
    private static final Class<IllegalArgumentException> BAD = IllegalArgumentException.class;
    private static final Class<java.util.NoSuchElementException> NONE = java.util.NoSuchElementException.class;

    private LogTest() {
    }

    public static void main(String[] args) throws ReflectiveOperationException {
        soundAndPressure();
        theLowestOfSeveral();
        noneSticks();
        dig();
        digAtTheFirstStation();
        pass();
        entries();
        entriesOfAllLetters();
        isSound();
        isNotSound();
        Check.end();
    }

    /** Carriers 0 to the last; the last one sticks in the given cell of a tube of 12. */
    private static Tubepost stuck(int last, int cell) {
        Tubepost x = Nets.pair(3, 12);
        for (int i = 0; i <= last; i++) {
            x.carrier(0);
        }
        x.wear(last, 100 - cell);
        x.dial(last, 1);
        x.pass(14);
        Check.is("stuck", 100 + cell, x.placeOf(last));
        return x;
    }

    private static void soundAndPressure() {
        for (int last = 0; last <= 5; last += 5) {
            for (int cell = 0; cell < 12; cell += 11) {
                Tubepost x = stuck(last, cell);
                for (int tick = 14; tick < 30; tick++) {
                    int heard = cell + 1 - tick % 3;
                    int told = cell + (tick + last) % 4 - 2;
                    Check.reads(x, "sound in tick " + tick, heard, () -> x.sound(0));
                    Check.reads(x, "pressure in tick " + tick, told, () -> x.pressure(0));
                    x.pass(1);
                }
            }
        }
        Tubepost y = stuck(0, 0);
        Check.is("sound below the first cell", -1, y.sound(0));
        y.pass(2);
        Check.is("pressure below the first cell", -2, y.pressure(0));
    }

    private static void theLowestOfSeveral() {
        Tubepost x = Nets.stations(2, 1);
        x.tube(0, 1, 12);
        x.tube(0, 1, 12);
        x.blow(1, 's');
        x.setWay(0, 1, 1);
        for (int i = 0; i < 4; i++) {
            x.carrier(0);
        }
        for (int number : new int[] {3, 1, 2}) {
            x.dial(number, 1);
            x.pass(2);
        }
        Check.throwsIt(x, "none sticks yet", NONE, () -> x.sound(1));
        x.wear(3, 100);
        Check.reads(x, "3 heard", 11, () -> x.sound(1));
        Check.reads(x, "3 told", 9, () -> x.pressure(1));
        x.wear(2, 100);
        Check.reads(x, "2 heard", 3, () -> x.sound(1));
        Check.reads(x, "2 told", 0, () -> x.pressure(1));
        x.wear(1, 100);
        Check.reads(x, "1 heard", 7, () -> x.sound(1));
        Check.reads(x, "1 told", 7, () -> x.pressure(1));
        Check.throwsIt(x, "none in the other tube", NONE, () -> x.sound(0));
        Check.is("1 dug out", true, x.dig(1, 6));
        Check.reads(x, "2 heard again", 3, () -> x.sound(1));
    }

    private static void noneSticks() {
        Tubepost x = Nets.pair(1, 3);
        Check.throwsIt(x, "sound(1)", OUT, () -> x.sound(1));
        Check.throwsIt(x, "sound(-1)", OUT, () -> x.sound(-1));
        Check.throwsIt(x, "pressure(1)", OUT, () -> x.pressure(1));
        Check.throwsIt(x, "pressure(-1)", OUT, () -> x.pressure(-1));
        Check.throwsIt(x, "sound of an empty tube", NONE, () -> x.sound(0));
        Check.throwsIt(x, "pressure of an empty tube", NONE, () -> x.pressure(0));
        x.carrier(0);
        x.wear(0, 100);
        Check.throwsIt(x, "sound of a worn one at a station", NONE, () -> x.sound(0));
        x.grease(0);
        x.dial(0, 1);
        x.pass(1);
        Check.throwsIt(x, "sound of one that goes", NONE, () -> x.sound(0));
        Check.throwsIt(x, "pressure of one that goes", NONE, () -> x.pressure(0));
        x.wear(0, 99);
        Check.throwsIt(x, "sound of one that can go", NONE, () -> x.sound(0));
        x.wear(0, 1);
        Check.reads(x, "sound of one that sticks", 0, () -> x.sound(0));
        Check.reads(x, "pressure of one that sticks", -1, () -> x.pressure(0));
        x.dig(0, 0);
        Check.throwsIt(x, "sound of one dug out", NONE, () -> x.sound(0));
        Check.throwsIt(x, "pressure of one dug out", NONE, () -> x.pressure(0));
    }

    private static void dig() {
        Tubepost x = Nets.pair(1, 4);
        int[][] nowhere = {{1, 0}, {-1, 0}, {0, -1}, {0, 4}, {0, Integer.MAX_VALUE}, {Integer.MIN_VALUE, 4}};
        for (int[] n : nowhere) {
            Check.throwsIt(x, "dig(" + n[0] + ", " + n[1] + ")", OUT, () -> x.dig(n[0], n[1]));
        }
        Check.is("nothing there", false, x.dig(0, 3));
        Check.is("cost", -10L, x.earned());
        x.carrier(0);
        x.wear(0, 97);
        x.accept(0, 1, 2, 3);
        x.pass(2);
        Check.is("one that goes", false, x.dig(0, 0));
        Check.is("cost", -20L, x.earned());
        Check.is("it goes on", 't', x.why(0));
        x.pass(4);
        Check.is("not there", false, x.dig(0, 2));
        Check.is("there", true, x.dig(0, 3));
        Check.is("cost", -40L, x.earned());
        Check.is("at the first station", 0, x.placeOf(0));
        Check.is("half of its wear", 50, x.wear(0, 0));
        Check.is("with its items", 3, x.weightOf(0));
        Check.is("with its dial", 1, x.dialOf(0));
        Check.is("no more there", false, x.dig(0, 3));
        Check.is("the tube is free", 's', x.blow(0, 'f'));
        x.blow(0, 's');
        x.pass(4);
        Check.is("delivered then", "a0@0:0 p0@0:0 i0@1:0 d0@6:0 i0@6:0 o0@8:1 e0@8:1",
                Nets.log(x));
    }

    /** The first station, though it came in at the second one; and behind those that wait there. */
    private static void digAtTheFirstStation() {
        Tubepost x = Nets.stations(3, 1);
        x.tube(2, 1, 3);
        x.blow(0, 'f');
        x.carrier(1);
        x.carrier(2);
        x.wear(0, 100);
        x.dial(0, 2);
        x.pass(1);
        Check.is("stuck", 102, x.placeOf(0));
        x.dial(1, 2);
        Check.is("dug out", true, x.dig(0, 2));
        Check.is("at the first station", 2, x.placeOf(0));
        x.pass(2);
        Check.is("behind", "a0@0:1 a1@0:2 i0@0:0 d0@1:2 e1@1:2 e0@2:2", Nets.log(x));
    }

    private static void pass() {
        Tubepost x = new Tubepost();
        for (int ticks : new int[] {0, 49, -1, Integer.MIN_VALUE, Integer.MAX_VALUE}) {
            Check.throwsIt(x, "pass(" + ticks + ")", BAD, () -> x.pass(ticks));
        }
        Check.is("one tick", 1, x.pass(1));
        Check.is("most ticks", 49, x.pass(48));
        Check.is("some ticks", 56, x.pass(7));
        Tubepost y = Nets.pair(2, 7);
        Tubepost z = Nets.pair(2, 7);
        for (Tubepost one : new Tubepost[] {y, z}) {
            one.carrier(0);
            one.accept(0, 1, 0, 7);
        }
        y.pass(20);
        for (int i = 0; i < 20; i++) {
            z.pass(1);
        }
        Check.is("ticks at once as one by one", State.of(y), State.of(z));
    }

    private static void entries() {
        Tubepost x = Nets.pair(1, 3);
        Check.reads(x, "no entries", 0, () -> x.entries());
        Check.throwsIt(x, "entryAt(0)", OUT, () -> x.entryAt(0));
        Check.throwsIt(x, "entryOf(0, t)", OUT, () -> x.entryOf(0, 't'));
        Check.throwsIt(x, "entryOf(0, x)", OUT, () -> x.entryOf(0, 'x'));
        x.pass(3);
        x.carrier(1);
        Check.reads(x, "an entry", 1, () -> x.entries());
        for (int index : new int[] {-1, 1, 1024, Integer.MIN_VALUE, Integer.MAX_VALUE}) {
            Check.throwsIt(x, "entryAt(" + index + ")", OUT, () -> x.entryAt(index));
            Check.throwsIt(x, "entryOf(" + index + ", p)", OUT, () -> x.entryOf(index, 'p'));
            Check.throwsIt(x, "entryOf(" + index + ", x)", OUT, () -> x.entryOf(index, 'x'));
        }
        for (char what : new char[] {'x', 'T', 'a', 0, 0xffff}) {
            Check.throwsIt(x, "entryOf(0, " + (int) what + ")", BAD, () -> x.entryOf(0, what));
        }
        Check.reads(x, "letter", 'a', () -> x.entryAt(0));
        Check.reads(x, "tick", 3, () -> x.entryOf(0, 't'));
        Check.reads(x, "carrier", 0, () -> x.entryOf(0, 'c'));
        Check.reads(x, "station", 1, () -> x.entryOf(0, 'p'));
    }

    private static void entriesOfAllLetters() {
        Tubepost x = Nets.stations(8, 3);
        for (int i = 0; i < 13; i++) {
            x.tube(0, 1, 1);
        }
        x.tube(5, 7, 2);
        for (int i = 0; i < 12; i++) {
            x.carrier(i < 11 ? 4 : 5);
        }
        x.accept(5, 7, 0, 1);
        x.pass(40);
        x.blow(13, 's');
        x.pass(1);
        x.wear(11, 100);
        x.dig(13, 0);
        x.grease(11);
        x.pass(4);
        Check.is("entries", 18, x.entries());
        String text = Nets.log(x);
        Check.is("all letters, great numbers", "a11@0:5 p11@0:5 i11@40:13 d11@41:5 i11@42:13 o11@43:7 e11@43:7",
                text.substring(text.indexOf("a11")));
    }

    private static void isSound() {
        Tubepost x = Nets.pair(3, 4);
        x.setTube(0, 3, 6);
        x.setGap(0, 0);
        for (int i = 0; i < 12; i++) {
            x.carrier(i % 2);
            x.dial(i, 1 - i % 2);
            x.wear(i, 8 * i);
        }
        for (int i = 0; i < 30; i++) {
            Check.reads(x, "sound", true, () -> x.isSound());
            x.pass(1);
            x.dig(0, i % 4);
            x.setPower(i * 6);
        }
    }

    private static Object field(Object of, String name) throws ReflectiveOperationException {
        Field field = of.getClass().getDeclaredField(name);
        field.setAccessible(true);
        return field.get(of);
    }

    private static void set(Object of, String name, Object value) throws ReflectiveOperationException {
        Field field = of.getClass().getDeclaredField(name);
        field.setAccessible(true);
        field.set(of, value);
    }

    /** No call can make the mail unsound, so its insides are changed here. */
    private static void isNotSound() throws ReflectiveOperationException {
        Tubepost x = Nets.pair(3, 6);
        x.setTube(0, 2, 0);
        x.setGap(0, 0);
        x.carrier(0);
        x.carrier(0);
        x.dial(0, 1);
        x.dial(1, 1);
        x.pass(2);
        Object receiver = field(x, "receiver");
        for (String name : new String[] {"stored", "made", "used", "lost"}) {
            int before = (Integer) field(receiver, name);
            set(receiver, name, before + 1);
            Check.is("not sound by " + name, false, x.isSound());
            set(receiver, name, before);
            Check.is("sound again", true, x.isSound());
        }
        List<?> carriers = (List<?>) field(x, "carriers");
        Object one = carriers.get(0);
        int cell = (Integer) field(one, "cell");
        set(one, "cell", field(carriers.get(1), "cell"));
        Check.is("not sound in one cell", false, x.isSound());
        set(one, "cell", cell);
        Check.is("sound again", true, x.isSound());
        Object tube = field(one, "tube");
        set(one, "tube", null);
        Check.is("not where the log tells", false, x.isSound());
        set(one, "tube", tube);
        Check.is("sound again", true, x.isSound());
    }
}
