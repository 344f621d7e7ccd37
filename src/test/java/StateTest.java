/** Promises 19 to 23: what is so. */
public final class StateTest {
    public static void main(String[] args) {
        ofFlight();
        sees();
        ofMast();
        ofSquadron();
        room();
        Checks.end();
    }

    private static void ofFlight() {
        Plotroom room = new Plotroom();
        Checks.refuses(room, "ofFlight without flights", Checks.INDEX, () -> room.ofFlight(0, 8));
        room.flight(false, 10, 20, -3, 4, 5, 66);
        room.flight(true, 30, 40, 1, -2, 9, 7);
        int[][] due = {{10, 20, -3, 4, 5, 66, 1, 0}, {30, 40, 1, -2, 9, 7, 1, 1}};
        for (int flight = 0; flight < 2; flight++) {
            for (int what = 0; what < 8; what++) {
                Checks.is("ofFlight(" + flight + ", " + what + ")", room.ofFlight(flight, what), due[flight][what]);
            }
        }
        room.pass(3);
        Checks.is("x after 3", room.ofFlight(0, 0), 1);
        Checks.is("y after 3", room.ofFlight(0, 1), 32);
        room.pass(1);
        Checks.is("gone", room.ofFlight(0, 6), 0);
        Checks.is("its course stays", room.ofFlight(0, 2), -3);
        Checks.is("its count stays", room.ofFlight(0, 5), 66);
        Checks.refuses(room, "ofFlight(0, -1)", Checks.ARGUMENT, () -> room.ofFlight(0, -1));
        Checks.refuses(room, "ofFlight(0, 8)", Checks.ARGUMENT, () -> room.ofFlight(0, 8));
        Checks.refuses(room, "ofFlight(-1, 0)", Checks.INDEX, () -> room.ofFlight(-1, 0));
        Checks.refuses(room, "ofFlight(2, 8)", Checks.INDEX, () -> room.ofFlight(2, 8));
    }

    private static void sees() {
        Plotroom room = new Plotroom();
        room.mast(100, 100, 50, 4, 0, 0);
        Checks.refuses(room, "sees without flights", Checks.INDEX, () -> room.sees(0, 0));
        room.flight(true, 130, 140, 0, 0, 5, 1);
        room.flight(true, 130, 141, 0, 0, 5, 1);
        room.flight(true, 100, 100, 0, 0, 4, 1);
        room.flight(false, 100, 51, 0, -1, 9, 1);
        room.mast(0, 0, 150, 9, 0, 0);
        room.mast(199, 100, 2, 0, 0, 0);
        room.flight(true, 199, 100, 1, 0, 1, 1);
        Checks.is("at 50 of 50", room.sees(0, 0), true);
        Checks.is("farther than 50", room.sees(0, 1), false);
        Checks.is("not above blind", room.sees(0, 2), false);
        Checks.is("an own one", room.sees(0, 3), true);
        Checks.is("blind to all", room.sees(1, 3), false);
        Checks.is("ahead of leaving", room.sees(2, 4), true);
        room.pass(2);
        Checks.is("gone", room.sees(2, 4), false);
        Checks.is("out of range by now", room.sees(0, 3), false);
        Checks.refuses(room, "sees(-1, 0)", Checks.INDEX, () -> room.sees(-1, 0));
        Checks.refuses(room, "sees(3, 0)", Checks.INDEX, () -> room.sees(3, 0));
        Checks.refuses(room, "sees(0, -1)", Checks.INDEX, () -> room.sees(0, -1));
        Checks.refuses(room, "sees(0, 5)", Checks.INDEX, () -> room.sees(0, 5));
    }

    private static void ofMast() {
        Plotroom room = new Plotroom();
        Checks.refuses(room, "ofMast without masts", Checks.INDEX, () -> room.ofMast(0, 10));
        room.mast(11, 12, 13, 4, 5, 3);
        room.flight(true, 11, 12, 0, 0, 5, 1);
        room.flight(true, 11, 13, 0, 0, 5, 1);
        room.pass(4);
        room.wire(0, true);
        room.pass(2);
        int[] due = {11, 12, 13, 4, 5, 3, 1, 12, 2, 4};
        for (int what = 0; what < 10; what++) {
            Checks.is("ofMast(0, " + what + ")", room.ofMast(0, what), due[what]);
        }
        Checks.refuses(room, "ofMast(0, -1)", Checks.ARGUMENT, () -> room.ofMast(0, -1));
        Checks.refuses(room, "ofMast(0, 10)", Checks.ARGUMENT, () -> room.ofMast(0, 10));
        Checks.refuses(room, "ofMast(-1, 0)", Checks.INDEX, () -> room.ofMast(-1, 0));
        Checks.refuses(room, "ofMast(1, 10)", Checks.INDEX, () -> room.ofMast(1, 10));
    }

    private static void all(Plotroom room, int... due) {
        for (int what = 0; what < 10; what++) {
            Checks.is("minute " + room.room(0) + ", ofSquadron(0, " + what + ")", room.ofSquadron(0, what), due[what]);
        }
    }

    private static void ofSquadron() {
        Plotroom room = new Plotroom();
        Checks.refuses(room, "ofSquadron without squadrons", Checks.INDEX, () -> room.ofSquadron(0, 10));
        room.station(0, 0);
        room.station(100, 70);
        room.squadron(1, 8, 12, 44, 2);
        room.mast(100, 100, 50, 0, 0, 0);
        room.flight(false, 100, 100, 0, 0, 5, 7);
        all(room, 1, 8, 0, 100, 70, 44, -1, -1, 3, 0);
        room.pass(1);
        room.scramble(0, 0);
        all(room, 1, 8, 1, 100, 70, 44, 0, 3, 3, 0);
        room.pass(2);
        all(room, 1, 8, 2, 100, 70, 44, 0, -1, 3, 0);
        room.pass(2);
        all(room, 1, 8, 2, 100, 94, 42, 0, -1, 5, 0);
        room.flight(true, 95, 100, 0, 0, 5, 3);
        room.pass(1);
        all(room, 1, 8, 2, 97, 100, 41, 0, -1, 6, 3);
        room.back(0);
        all(room, 1, 8, 3, 97, 100, 41, -1, -1, 6, 3);
        room.pass(3);
        all(room, 1, 8, 4, 100, 70, 44, -1, 21, 3, 3);
        room.pass(12);
        all(room, 1, 8, 0, 100, 70, 44, -1, -1, 3, 3);
        Checks.refuses(room, "ofSquadron(0, -1)", Checks.ARGUMENT, () -> room.ofSquadron(0, -1));
        Checks.refuses(room, "ofSquadron(0, 10)", Checks.ARGUMENT, () -> room.ofSquadron(0, 10));
        Checks.refuses(room, "ofSquadron(-1, 0)", Checks.INDEX, () -> room.ofSquadron(-1, 0));
        Checks.refuses(room, "ofSquadron(1, 10)", Checks.INDEX, () -> room.ofSquadron(1, 10));
    }

    /** Each number of the room is brought to a value that no other one has where that can be. */
    private static void room() {
        Plotroom room = new Plotroom();
        room.mast(100, 100, 60, 0, 0, 0);
        room.mast(100, 100, 20, 0, 0, 4);
        room.flight(false, 100, 100, 0, 0, 5, 12);
        room.flight(true, 130, 100, 0, 0, 5, 34);
        room.flight(true, 100, 140, 0, 0, 5, 45);
        room.flight(true, 0, 0, -1, 0, 5, 9);
        room.plan(0, 1000, 100, 100, 5);
        Checks.is("up", room.room(1), 4);
        Checks.is("foes", room.room(2), 3);
        Checks.is("counts of foes", room.room(3), 34 + 45 + 9);
        room.pass(3);
        Checks.is("minute", room.room(0), 3);
        Checks.is("up", room.room(1), 3);
        Checks.is("foes", room.room(2), 2);
        Checks.is("counts of foes", room.room(3), 34 + 45);
        Checks.is("tracks", room.room(4), 3);
        Checks.is("live ones", room.room(5), 3);
        Checks.is("friends", room.room(6), 1);
        Checks.is("hostile ones", room.room(7), 2);
        Checks.is("on their way", room.room(8), 3);
        Checks.is("lost for want of a track", room.room(9), 0);
        Checks.is("drawn", room.room(19), 2 * (9 + 3));
        room.wire(0, true);
        room.wire(1, true);
        room.pass(7);
        Checks.is("tracks", room.room(4), 3);
        Checks.is("none live", room.room(5), 0);
        Checks.is("no live friends", room.room(6), 0);
        Checks.is("no live hostile ones", room.room(7), 0);
        Checks.is("a hostile one that is lost", room.ofTrack(1, 8), 2);
        room.town(130, 100, 1);
        room.town(133, 104, 1);
        room.town(133, 105, 1);
        room.pass(1);
        Checks.is("lives of two towns", room.room(18), 68);
        Checks.is("refused", room.room(20), room.call() - 1);
        Checks.refuses(room, "room(-1)", Checks.ARGUMENT, () -> room.room(-1));
        Checks.refuses(room, "room(21)", Checks.ARGUMENT, () -> room.room(21));
    }

    private StateTest() {
    }
}
