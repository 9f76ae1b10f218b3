/** Small mails for the tests, and their logs as texts. */
final class Nets {
    private Nets() {
    }

    /** A mail of some stations without tubes. */
    static Tubepost stations(int count, int clerk) {
        Tubepost x = new Tubepost();
        for (int i = 0; i < count; i++) {
            x.station(clerk);
        }
        return x;
    }

    /** Two stations and one tube from 0 to 1, blown to 1. */
    static Tubepost pair(int clerk, int cells) {
        Tubepost x = stations(2, clerk);
        x.tube(0, 1, cells);
        x.blow(0, 's');
        return x;
    }

    /** Each entry as letter, carrier, '@', tick, ':', place. */
    static String log(Tubepost x) {
        return logFrom(x, 0);
    }

    /** The same from an entry on. */
    static String logFrom(Tubepost x, int first) {
        StringBuilder text = new StringBuilder();
        for (int i = first; i < x.entries(); i++) {
            text.append(i == first ? "" : " ").append(x.entryAt(i)).append(x.entryOf(i, 'c')).append('@')
                    .append(x.entryOf(i, 't')).append(':').append(x.entryOf(i, 'p'));
        }
        return text.toString();
    }
}
