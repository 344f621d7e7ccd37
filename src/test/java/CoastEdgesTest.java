/** Promises 1 to 9 at their edges: the last value that is taken, the first that is not, the empty and the full. */
public final class CoastEdgesTest {
    public static void main(String[] args) {
        newObjectIsEmpty();
        mastArguments();
        mastsFull();
        wireNumbers();
        stationArguments();
        stationsFull();
        squadronArguments();
        squadronsFull();
        gunArguments();
        gunsFull();
        lendNumbers();
        lentCounts();
        townArguments();
        townsFull();
        gateArgument();
        Checks.end();
    }

    private static void newObjectIsEmpty() {
        Plotroom room = new Plotroom();
        Checks.refuses(room, "no mast", Checks.INDEX, () -> room.wire(0, true));
        Checks.refuses(room, "no station", Checks.INDEX, () -> room.squadron(0, 1, 5, 10, 1));
        Checks.refuses(room, "no squadron", Checks.INDEX, () -> room.ofSquadron(0, 0));
        Checks.refuses(room, "no gun", Checks.INDEX, () -> room.lend(0, true));
        Checks.refuses(room, "no town", Checks.INDEX, () -> room.siren(0));
        Checks.refuses(room, "no flight", Checks.INDEX, () -> room.ofFlight(0, 0));
        Checks.refuses(room, "no track", Checks.INDEX, () -> room.ofTrack(0, 0));
        Checks.is("minute 0", room.room(0), 0);
        Checks.is("gate 12", room.gate(1), 12);
        Checks.is("no plan ahead of the first", room.plan(0, 0, 0, 0, 1), 1);
        Checks.is("none refused ahead of the first", room.call(), 1);
        Checks.is("nothing drawn", room.room(19), 0);
        for (int minute = 1; minute <= 20; minute++) {
            Checks.is("minutes of an empty room", room.pass(1), minute);
        }
        Checks.is("nothing comes of them", room.room(4) + room.room(8) + room.room(12) + room.room(17) + room.room(18) + room.room(19), 0);
    }

    private static int mast(Plotroom room, int[] a) {
        return room.mast(a[0], a[1], a[2], a[3], a[4], a[5]);
    }

    private static int[] with(int[] usual, int index, int value) {
        int[] changed = usual.clone();
        changed[index] = value;
        return changed;
    }

    private static void mastArguments() {
        int[] usual = {100, 101, 50, 3, 4, 2};
        int[][] allowed = {{0, 199}, {0, 199}, {1, 150}, {0, 9}, {0, 9}, {0, 5}};
        for (int i = 0; i < usual.length; i++) {
            int index = i;
            Checks.edges(Rooms::lively, "mast, argument " + i, Checks.ARGUMENT, allowed[i][0], allowed[i][1], (room, value) -> {
                int number = mast(room, with(usual, index, value));
                Checks.is("number of the mast", number, 3);
                for (int what = 0; what < 6; what++) {
                    Checks.is("ofMast(3, " + what + ")", room.ofMast(3, what), what == index ? value : usual[what]);
                }
            });
        }
    }

    private static void mastsFull() {
        Plotroom room = new Plotroom();
        for (int i = 0; i < 5; i++) {
            Checks.is("mast " + i + " of 5", room.mast(i, i, 9, 9, 9, 5), i);
        }
        Checks.is("the last one is there", room.ofMast(4, 0), 4);
        Checks.refusesForGood(Rooms::full, "a sixth mast", Checks.STATE, full -> full.mast(1, 1, 1, 1, 1, 1));
        int[][] wrong = {{-1, 1, 1, 1, 1, 1}, {1, 200, 1, 1, 1, 1}, {1, 1, 0, 1, 1, 1}, {1, 1, 1, 10, 1, 1}, {1, 1, 1, 1, -1, 1}, {1, 1, 1, 1, 1, 6}};
        for (int[] w : wrong) {
            Checks.refusesForGood(Rooms::full, "a sixth mast, wrong", Checks.ARGUMENT, full -> mast(full, w));
        }
    }

    private static void wireNumbers() {
        Checks.edges(Rooms::lively, "wire of 3", Checks.INDEX, 0, 2, (room, mast) -> room.wire(mast, true));
        Checks.edges(Rooms::full, "wire of 5", Checks.INDEX, 0, 4, (room, mast) -> room.wire(mast, true));
        Checks.refusesForGood(Plotroom::new, "wire of none", Checks.INDEX, room -> room.wire(0, true));
        Plotroom room = Rooms.full();
        Checks.is("whole at first", room.wire(4, true), false);
        Checks.is("cut", room.ofMast(4, 6), 1);
        Checks.is("cut from then on", room.wire(4, true), true);
        Checks.is("whole again", room.wire(4, false), true);
        Checks.is("whole", room.ofMast(4, 6), 0);
        Checks.is("whole twice", room.wire(4, false), false);
        Checks.is("whole as it is told so at first", room.wire(3, false), false);
        Checks.is("the first one is another", room.wire(0, false), false);
    }

    private static void stationArguments() {
        Checks.edges(Rooms::lively, "station, x", Checks.ARGUMENT, 0, 199, (room, x) -> {
            Checks.is("number of the station", room.station(x, 7), 2);
            Checks.is("number of its squadron", room.squadron(2, 1, 5, 10, 1), 4);
            Checks.is("x of it", room.ofSquadron(4, 3), x);
            Checks.is("y of it", room.ofSquadron(4, 4), 7);
        });
        Checks.edges(Rooms::lively, "station, y", Checks.ARGUMENT, 0, 199, (room, y) -> {
            Checks.is("number of the station", room.station(7, y), 2);
            Checks.is("number of its squadron", room.squadron(2, 1, 5, 10, 1), 4);
            Checks.is("x of it", room.ofSquadron(4, 3), 7);
            Checks.is("y of it", room.ofSquadron(4, 4), y);
        });
    }

    private static void stationsFull() {
        Plotroom room = new Plotroom();
        for (int i = 0; i < 4; i++) {
            Checks.is("station " + i + " of 4", room.station(i, i), i);
        }
        Checks.refusesForGood(Rooms::full, "a fifth station", Checks.STATE, full -> full.station(1, 1));
        Checks.refusesForGood(Rooms::full, "a fifth station, x too small", Checks.ARGUMENT, full -> full.station(-1, 1));
        Checks.refusesForGood(Rooms::full, "a fifth station, y too large", Checks.ARGUMENT, full -> full.station(1, 200));
    }

    private static int squadron(Plotroom room, int[] a) {
        return room.squadron(a[0], a[1], a[2], a[3], a[4]);
    }

    private static void squadronArguments() {
        int[] usual = {1, 6, 11, 44, 7};
        int[][] allowed = {{0, 1}, {1, 12}, {5, 20}, {10, 99}, {1, 15}};
        for (int i = 0; i < usual.length; i++) {
            int index = i;
            Class<?> due = i == 0 ? Checks.INDEX : Checks.ARGUMENT;
            Checks.edges(Rooms::lively, "squadron, argument " + i, due, allowed[i][0], allowed[i][1], (room, value) -> {
                int[] told = with(usual, index, value);
                Checks.is("number of the squadron", squadron(room, told), 4);
                Checks.is("its station", room.ofSquadron(4, 0), told[0]);
                Checks.is("its machines", room.ofSquadron(4, 1), told[1]);
                Checks.is("its fuel", room.ofSquadron(4, 5), told[3]);
                Checks.is("ready", room.scramble(4, 0), room.room(0) + told[4]);
            });
        }
        Checks.edges(Rooms::full, "squadron of one of 4 stations", Checks.INDEX, 0, 3, (room, station) -> {
            if (station >= 0 && station < 4) {
                Checks.refuses(room, "a ninth squadron", Checks.STATE, () -> room.squadron(station, 1, 5, 10, 1));
            } else {
                room.squadron(station, 1, 5, 10, 1);
            }
        });
        int[][] wrong = {{2, 0, 5, 10, 1}, {-1, 1, 4, 10, 1}, {2, 1, 5, 9, 1}, {2, 1, 5, 10, 0}};
        for (int[] w : wrong) {
            Checks.refusesForGood(Rooms::lively, "squadron of no station, wrong", Checks.INDEX, room -> squadron(room, w));
        }
    }

    private static void squadronsFull() {
        Plotroom room = new Plotroom();
        room.station(9, 9);
        for (int i = 0; i < 8; i++) {
            Checks.is("squadron " + i + " of 8", room.squadron(0, 1, 5, 10, 1), i);
        }
        Checks.refusesForGood(Rooms::full, "a ninth squadron", Checks.STATE, full -> full.squadron(0, 1, 5, 10, 1));
        Checks.refusesForGood(Rooms::full, "a ninth squadron of no station", Checks.INDEX, full -> full.squadron(4, 1, 5, 10, 1));
        int[][] wrong = {{0, 0, 5, 10, 1}, {0, 13, 5, 10, 1}, {0, 1, 21, 10, 1}, {0, 1, 5, 100, 1}, {0, 1, 5, 10, 16}};
        for (int[] w : wrong) {
            Checks.refusesForGood(Rooms::full, "a ninth squadron, wrong", Checks.ARGUMENT, full -> squadron(full, w));
        }
    }

    private static void gunArguments() {
        Checks.edges(Rooms::lively, "gun, x", Checks.ARGUMENT, 0, 199, (room, x) -> Checks.is("number of the gun", room.gun(x, 7, 9), 2));
        Checks.edges(Rooms::lively, "gun, y", Checks.ARGUMENT, 0, 199, (room, y) -> Checks.is("number of the gun", room.gun(7, y, 9), 2));
        Checks.edges(Rooms::lively, "gun, radius", Checks.ARGUMENT, 1, 20, (room, radius) -> Checks.is("number of the gun", room.gun(7, 7, radius), 2));
    }

    private static void gunsFull() {
        Plotroom room = new Plotroom();
        for (int i = 0; i < 6; i++) {
            Checks.is("gun " + i + " of 6", room.gun(i, i, 1), i);
        }
        Checks.refusesForGood(Rooms::full, "a seventh gun", Checks.STATE, full -> full.gun(1, 1, 1));
        Checks.refusesForGood(Rooms::full, "a seventh gun, x too large", Checks.ARGUMENT, full -> full.gun(200, 1, 1));
        Checks.refusesForGood(Rooms::full, "a seventh gun, y too small", Checks.ARGUMENT, full -> full.gun(1, -1, 1));
        Checks.refusesForGood(Rooms::full, "a seventh gun, radius too small", Checks.ARGUMENT, full -> full.gun(1, 1, 0));
    }

    private static void lendNumbers() {
        Checks.edges(Rooms::lively, "lend of 2", Checks.INDEX, 0, 1, (room, gun) -> room.lend(gun, true));
        Checks.edges(Rooms::lively, "take back of 2", Checks.INDEX, 0, 1, (room, gun) -> room.lend(gun, false));
        Checks.edges(Rooms::full, "lend of 6", Checks.INDEX, 0, 5, (room, gun) -> room.lend(gun, true));
        Checks.refusesForGood(Plotroom::new, "lend of none", Checks.INDEX, room -> room.lend(0, true));
    }

    private static void lentCounts() {
        Plotroom room = Rooms.full();
        Checks.is("take back what is not lent", room.lend(0, false), 0);
        for (int i = 0; i < 6; i++) {
            Checks.is("lent of 6", room.lend(i, true), i + 1);
        }
        Checks.is("lent once more", room.lend(3, true), 6);
        for (int i = 0; i < 6; i++) {
            Checks.is("lent still of 6", room.lend(i, false), 5 - i);
        }
        Checks.is("none is lent", room.lend(5, false), 0);
    }

    private static void townArguments() {
        Checks.edges(Rooms::lively, "town, x", Checks.ARGUMENT, 0, 199, (room, x) -> Checks.is("number of the town", room.town(x, 7, 9), 2));
        Checks.edges(Rooms::lively, "town, y", Checks.ARGUMENT, 0, 199, (room, y) -> Checks.is("number of the town", room.town(7, y, 9), 2));
        Checks.edges(Rooms::lively, "town, people", Checks.ARGUMENT, 1, 99, (room, people) -> Checks.is("number of the town", room.town(7, 7, people), 2));
    }

    private static void townsFull() {
        Plotroom room = new Plotroom();
        for (int i = 0; i < 6; i++) {
            Checks.is("town " + i + " of 6", room.town(i, i, 1), i);
        }
        Checks.is("the last one is there", room.wouldSound(5), -1);
        Checks.refusesForGood(Rooms::full, "a seventh town", Checks.STATE, full -> full.town(1, 1, 1));
        Checks.refusesForGood(Rooms::full, "a seventh town, x too small", Checks.ARGUMENT, full -> full.town(-1, 1, 1));
        Checks.refusesForGood(Rooms::full, "a seventh town, y too large", Checks.ARGUMENT, full -> full.town(1, 200, 1));
        Checks.refusesForGood(Rooms::full, "a seventh town, too many people", Checks.ARGUMENT, full -> full.town(1, 1, 100));
    }

    private static void gateArgument() {
        Checks.edges(Rooms::lively, "gate", Checks.ARGUMENT, 1, 40, (room, gate) -> {
            Checks.is("gate ahead", room.gate(gate), 15);
            Checks.is("gate from then on", room.gate(7), gate);
            Checks.is("gate once more", room.gate(7), 7);
        });
    }

    private CoastEdgesTest() {
    }
}
