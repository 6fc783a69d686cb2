/**
 * What later calls show of a festival, in parts of fewer than 300 calls each; a festival at which
 * one of them has looked is used up, since some look by changes.
 */
enum Probe {
    TIME_AND_STAGES {
        @Override
        void note(Festivalgrounds x, Notes notes) {
            for (int minute = 0; minute < 5760; minute += 1439) {
                for (int i = 0; i <= 5; i++) {
                    int at = minute;
                    int what = i;
                    notes.add(() -> x.dateAt(at, what));
                }
            }
            for (int i = 0; i < 16; i++) {
                int pair = i;
                notes.add(() -> x.walk(pair / 4, pair % 4));
            }
            for (int i = 0; i < 4; i++) {
                int stage = i;
                notes.add(() -> x.firstIn(stage, 0, 5760));
            }
            notes.add(() -> x.errors());
            for (int i = 0; i < 4; i++) {
                int stage = i;
                notes.add(() -> x.setOpen(stage, true));
            }
            // Ways that are longer than the walks by others are told when those get longer.
            for (int i = 0; i < 16; i++) {
                int pair = i;
                notes.add(() -> x.setWay(pair / 4, pair % 4, 60));
                for (int j = 0; j < 4; j++) {
                    int other = j;
                    notes.add(() -> x.walk(pair / 4, other));
                }
            }
        }
    },
    ACTS {
        @Override
        void note(Festivalgrounds x, Notes notes) {
            for (int i = 0; i < 16 * 7; i++) {
                int number = i;
                notes.add(() -> x.actAt(number / 7, number % 7));
            }
            notes.add(() -> x.acts());
            notes.add(() -> x.clashes());
            notes.add(() -> x.pleased(false));
            notes.add(() -> x.pleased(true));
            notes.add(() -> x.lineupShare());
            notes.add(() -> x.checksum());
        }
    },
    CLASHES {
        @Override
        void note(Festivalgrounds x, Notes notes) {
            for (int i = 0; i < 256; i++) {
                int pair = i;
                notes.add(() -> x.clash(pair / 16, pair % 16));
            }
        }
    },
    WISHES {
        @Override
        void note(Festivalgrounds x, Notes notes) {
            for (int i = 0; i < 12 * 16; i++) {
                int place = i;
                notes.add(() -> x.wish(place / 16, place % 16, 1));
            }
        }
    },
    PRICES {
        @Override
        void note(Festivalgrounds x, Notes notes) {
            for (int i = 0; i < 12 * 16; i++) {
                int place = i;
                notes.add(() -> x.price(place / 16, place % 16));
            }
        }
    },
    EVENINGS {
        @Override
        void note(Festivalgrounds x, Notes notes) {
            for (int i = 0; i < 48; i++) {
                int visitor = i / 4;
                int day = i % 4;
                notes.add(() -> x.evening(visitor, day));
                for (int j = 0; j < 3; j++) {
                    int place = j;
                    notes.add(() -> x.eveningAct(visitor, day, place));
                }
            }
            for (int i = 0; i < 4; i++) {
                int day = i;
                notes.add(() -> x.meanEvening(day));
            }
        }
    },
    LISTENERS {
        @Override
        void note(Festivalgrounds x, Notes notes) {
            for (int i = 0; i < 5760; i += 97) {
                int minute = i;
                for (int j = 0; j < 4; j++) {
                    int stage = j;
                    notes.add(() -> x.listeners(stage, minute));
                }
            }
        }
    },
    WAYS_OUT {
        @Override
        void note(Festivalgrounds x, Notes notes) {
            notes.add(() -> x.outBy());
            notes.add(() -> x.cut());
            for (int i = 0; i < 12; i++) {
                int place = i;
                notes.add(() -> x.setReach(place / 4, place % 4, 1));
            }
            for (int i = 0; i < 3; i++) {
                int gate = i;
                notes.add(() -> x.setGate(gate, 1));
            }
            for (int i = 0; i < 4; i++) {
                int stage = i;
                notes.add(() -> x.setCrowd(stage, 1));
            }
        }
    },
    BARS {
        @Override
        void note(Festivalgrounds x, Notes notes) {
            for (int minute = 0; minute < 20; minute++) {
                for (int i = 0; i < 3; i++) {
                    int bar = i;
                    notes.add(() -> x.line(bar));
                    notes.add(() -> x.front(bar, false));
                    notes.add(() -> x.front(bar, true));
                }
                notes.add(() -> x.waits(false));
                notes.add(() -> x.waits(true));
                notes.add(() -> x.served());
                notes.add(() -> x.pass(1));
            }
            notes.add(() -> x.setServing(1));
        }
    },
    WAITS {
        @Override
        void note(Festivalgrounds x, Notes notes) {
            for (int i = 0; i < 12; i++) {
                int visitor = i;
                notes.add(() -> x.waitOf(visitor));
            }
            for (int i = 0; i < 12; i++) {
                int visitor = i;
                notes.add(() -> x.leave(visitor));
            }
        }
    },
    HELPERS {
        @Override
        void note(Festivalgrounds x, Notes notes) {
            for (int i = -1; i < 24; i++) {
                int hour = i;
                notes.add(() -> x.helpers(hour));
            }
            notes.add(() -> x.proof());
            notes.add(() -> x.setShift(2));
            for (int i = 0; i < 24; i++) {
                int hour = i;
                notes.add(() -> x.setNeed(hour, 1));
            }
        }
    },
    POWER {
        @Override
        void note(Festivalgrounds x, Notes notes) {
            notes.add(() -> x.cost());
            for (int i = 0; i < 24; i++) {
                int hour = i;
                notes.add(() -> x.isOn(hour));
            }
            for (int i = 0; i < 24; i++) {
                int hour = i;
                notes.add(() -> x.setLoad(hour, hour, 0));
            }
            // What starts and hours cost is told by plans alone.
            for (int i = 20; i <= 500; i += 20) {
                int load = i;
                x.setLoad(0, 0, load);
                notes.add(() -> x.cost());
                notes.add(() -> x.isOn(0));
                x.setLoad(0, 1, load);
                notes.add(() -> x.cost());
                x.setLoad(0, 1, 0);
            }
            for (int i = 0; i < 4; i++) {
                int generator = i;
                notes.add(() -> x.setGenerator(generator, 0, 0, 0));
            }
        }
    },
    TICKETS {
        @Override
        void note(Festivalgrounds x, Notes notes) {
            for (int i = 0; i < 48; i++) {
                int place = i;
                notes.add(() -> x.ticketAt(place / 4, place % 4));
            }
            notes.add(() -> x.balance(0, 0));
            for (int i = 0; i < 12; i++) {
                int number = i;
                notes.add(() -> x.balance(1, number));
                notes.add(() -> x.balance(2, number));
            }
            for (int i = 0; i < 48; i++) {
                int place = i;
                notes.add(() -> x.refund(place / 4, place % 4));
            }
            for (int i = 0; i < 4; i++) {
                int day = i;
                notes.add(() -> x.setPrice(day, 1));
            }
        }
    },
    THINGS {
        @Override
        void note(Festivalgrounds x, Notes notes) {
            notes.add(() -> x.lost());
            for (int i = 0; i < 4; i++) {
                int stage = i;
                String found = "";
                for (int j = 0; j < 101 && !found.startsWith("throws."); j++) {
                    found = Check.outcome(() -> x.find(stage));
                    notes.write(found);
                }
            }
        }
    },
    RAIN_PLAN {
        @Override
        void note(Festivalgrounds x, Notes notes) {
            for (int i = 0; i < 16; i++) {
                int act = i;
                notes.add(() -> x.movedTo(act));
            }
            notes.add(() -> x.moveAll());
            for (int i = 0; i < 16; i++) {
                int act = i;
                notes.add(() -> x.actAt(act, 0));
            }
        }
    },
    CHANGES {
        @Override
        void note(Festivalgrounds x, Notes notes) {
            for (int i = 0; i < 10; i++) {
                notes.add(() -> x.undo());
                notes.add(() -> x.dateAt(0, 0));
                notes.add(() -> x.walk(0, 3));
                notes.add(() -> x.acts());
                notes.add(() -> x.checksum());
                notes.add(() -> x.pleased(false));
                notes.add(() -> x.outBy());
                notes.add(() -> x.cut());
                notes.add(() -> x.line(1));
                notes.add(() -> x.waits(false));
                notes.add(() -> x.served());
                notes.add(() -> x.helpers(Festivalgrounds.NONE));
                notes.add(() -> x.cost());
                notes.add(() -> x.balance(0, 0));
                notes.add(() -> x.lost());
            }
        }
    };

    static final class Notes {
        private final StringBuilder text = new StringBuilder();

        void add(Check.Call call) {
            write(Check.outcome(call));
        }

        void write(String answer) {
            text.append(' ').append(answer);
        }
    }

    abstract void note(Festivalgrounds x, Notes notes);

    String look(Festivalgrounds x) {
        Notes notes = new Notes();
        note(x, notes);
        return notes.text.toString();
    }
}
