/** All that can be seen of a festival without changing it, as one text. */
final class Look {
    private Look() {
    }

    static String at(Festivalgrounds x) {
        return stages(x) + acts(x) + visitors(x) + exits(x) + bars(x) + hours(x) + measures(x);
    }

    private static String stages(Festivalgrounds x) {
        StringBuilder text = new StringBuilder("date");
        for (int what = 0; what <= 5; what++) {
            text.append(' ').append(x.dateAt(0, what));
        }
        text.append(" walks");
        for (int stage = 0; stage < 4; stage++) {
            for (int other = 0; other < 4; other++) {
                text.append(' ').append(x.walk(stage, other));
            }
        }
        return text.toString();
    }

    private static String acts(Festivalgrounds x) {
        StringBuilder text = new StringBuilder("\nacts ").append(x.acts());
        for (int i = 0; i < 16; i++) {
            int act = i;
            for (int j = 0; j <= 6; j++) {
                int what = j;
                text.append(' ').append(Check.outcome(() -> x.actAt(act, what)));
            }
            text.append(' ').append(Check.outcome(() -> x.movedTo(act)));
        }
        text.append(' ').append(x.clashes());
        text.append(' ').append(x.pleased(false)).append(' ').append(x.pleased(true));
        return text.toString();
    }

    private static String visitors(Festivalgrounds x) {
        StringBuilder text = new StringBuilder("\nvisitors");
        for (int i = 0; i < 12; i++) {
            int visitor = i;
            text.append(' ').append(x.balance(1, visitor)).append(' ').append(x.waitOf(visitor));
            for (int day = 0; day < 4; day++) {
                text.append(' ').append(x.evening(visitor, day));
                text.append(' ').append(x.ticketAt(visitor, day));
            }
            for (int j = 0; j < 16; j++) {
                int act = j;
                text.append(' ').append(Check.outcome(() -> x.price(visitor, act)));
            }
        }
        return text.toString();
    }

    private static String exits(Festivalgrounds x) {
        return "\nout " + x.outBy() + " " + x.cut();
    }

    private static String bars(Festivalgrounds x) {
        StringBuilder text = new StringBuilder("\nbars");
        for (int i = 0; i < 3; i++) {
            int bar = i;
            text.append(' ').append(x.line(bar));
            text.append(' ').append(Check.outcome(() -> x.front(bar, false)));
            text.append(' ').append(Check.outcome(() -> x.front(bar, true)));
        }
        return text.append(' ').append(x.waits(false)).append(' ').append(x.waits(true))
                .append(' ').append(x.served()).toString();
    }

    private static String hours(Festivalgrounds x) {
        StringBuilder text = new StringBuilder("\nhours ");
        text.append(x.helpers(-1)).append(' ').append(x.proof()).append(' ').append(x.cost());
        for (int i = 0; i < 24; i++) {
            int hour = i;
            text.append(' ').append(x.helpers(hour));
            text.append(' ').append(Check.outcome(() -> x.isOn(hour)));
        }
        return text.toString();
    }

    private static String measures(Festivalgrounds x) {
        StringBuilder text = new StringBuilder("\nmeasures ").append(x.balance(0, 0));
        for (int musician = 0; musician < 12; musician++) {
            text.append(' ').append(x.balance(2, musician));
        }
        text.append(' ').append(x.lost()).append(' ').append(x.lineupShare());
        return text.append(' ').append(x.checksum()).append(' ').append(x.errors()).toString();
    }
}
