/** Promises 24 to 29: the table. */
public final class TableTest {
    public static void main(String[] args) {
        ofTrack();
        friendsByPlan();
        friendsBySquadron();
        where();
        truth();
        siren();
        table();
        seen();
        Checks.end();
    }

    private static Plotroom withMast(int lag) {
        Plotroom room = new Plotroom();
        room.mast(100, 100, 150, 0, 0, lag);
        return room;
    }

    private static void track(Plotroom room, int track, int... due) {
        for (int what = 0; what < due.length; what++) {
            Checks.is("minute " + room.room(0) + ", ofTrack(" + track + ", " + what + ")", room.ofTrack(track, what), due[what]);
        }
    }

    private static void ofTrack() {
        Plotroom room = withMast(1);
        Checks.refuses(room, "ofTrack without tracks", Checks.INDEX, () -> room.ofTrack(0, 11));
        room.flight(true, 50, 60, 3, -4, 5, 19);
        room.station(0, 0);
        room.squadron(0, 1, 5, 10, 9);
        room.squadron(0, 1, 5, 10, 9);
        room.pass(2);
        track(room, 0, 53, 56, 1, 0, 0, 10, 1, 1, 1, 1, 0);
        room.scramble(0, 0);
        room.scramble(1, 0);
        room.pass(1);
        track(room, 0, 56, 52, 2, 30, -40, 10, 2, 1, 1, 1, 2);
        room.back(0);
        room.pass(1);
        track(room, 0, 59, 48, 3, 30, -40, 10, 3, 1, 2, 1, 1);
        room.wire(0, true);
        room.pass(6);
        track(room, 0, 59, 48, 3, 30, -40, 10, 3, 0, 2, 7, 1);
        Checks.refuses(room, "ofTrack(0, -1)", Checks.ARGUMENT, () -> room.ofTrack(0, -1));
        Checks.refuses(room, "ofTrack(0, 11)", Checks.ARGUMENT, () -> room.ofTrack(0, 11));
        Checks.refuses(room, "ofTrack(-1, 0)", Checks.INDEX, () -> room.ofTrack(-1, 0));
        Checks.refuses(room, "ofTrack(1, 11)", Checks.INDEX, () -> room.ofTrack(1, 11));
    }

    private static int kindWith(int from, int to, int x, int y, int radius) {
        Plotroom room = withMast(0);
        room.flight(true, 50, 60, 0, 0, 5, 19);
        room.pass(4);
        room.wire(0, true);
        room.pass(2);
        room.plan(from, to, x, y, radius);
        return room.ofTrack(0, 8);
    }

    private static void friendsByPlan() {
        Checks.is("a plan that ends as the track was seen", kindWith(0, 4, 50, 60, 1), 0);
        Checks.is("a plan that begins as the track was seen", kindWith(4, 9, 50, 60, 1), 0);
        Checks.is("a plan that ends ahead", kindWith(0, 3, 50, 60, 1), 2);
        Checks.is("a plan that begins behind", kindWith(5, 1000, 50, 60, 1), 2);
        Checks.is("a plan at its radius", kindWith(4, 4, 53, 64, 5), 0);
        Checks.is("a plan beyond its radius", kindWith(4, 4, 53, 65, 5), 2);
    }

    private static int kindWithSquadron(int stationX, boolean isUp, boolean isHome) {
        Plotroom room = withMast(0);
        room.flight(false, 150, 100, 0, 0, 9, 19);
        room.flight(false, 50, 60, 0, 0, 9, 19);
        room.station(stationX, 60);
        room.squadron(0, 1, 5, 10, 1);
        room.pass(3);
        if (isUp) {
            room.scramble(0, 0);
            room.pass(1);
        }
        if (isHome) {
            room.back(0);
        }
        return room.ofTrack(1, 8);
    }

    private static void friendsBySquadron() {
        Checks.is("a squadron that is up within 8", kindWithSquadron(58, true, false), 0);
        Checks.is("a squadron that is up at 9", kindWithSquadron(59, true, false), 2);
        Checks.is("a squadron that is home within 8", kindWithSquadron(42, true, true), 0);
        Checks.is("a squadron that is grounded", kindWithSquadron(50, false, false), 2);
    }

    private static void where() {
        Plotroom room = withMast(0);
        Checks.refuses(room, "where without tracks", Checks.INDEX, () -> room.where(0, -1, true));
        room.flight(true, 50, 60, 3, -4, 5, 19);
        room.pass(2);
        Checks.is("x as it was seen", room.where(0, 2, false), 56);
        Checks.is("y as it was seen", room.where(0, 2, true), 52);
        Checks.is("x 5 later", room.where(0, 7, false), 71);
        Checks.is("y 5 later", room.where(0, 7, true), 32);
        Checks.is("x at the end", room.where(0, 1200, false), 199);
        Checks.is("y at the end", room.where(0, 1200, true), 0);
        Checks.refuses(room, "where ahead", Checks.ARGUMENT, () -> room.where(0, 1, false));
        Checks.refuses(room, "where(1201)", Checks.ARGUMENT, () -> room.where(0, 1201, false));
        Checks.refuses(room, "where(1, 1201)", Checks.INDEX, () -> room.where(1, 1201, false));
        Checks.refuses(room, "where(-1, 2)", Checks.INDEX, () -> room.where(-1, 2, false));
        room.wire(0, true);
        room.pass(8);
        Checks.is("x of one that is lost", room.where(0, 7, false), 71);
        Checks.is("ahead of now", room.where(0, 2, false), 56);
    }

    private static void truth() {
        Plotroom room = withMast(0);
        Checks.refuses(room, "truth without tracks", Checks.INDEX, () -> room.truth(0));
        room.flight(true, 50, 60, 3, 0, 5, 19);
        room.pass(2);
        Checks.is("its flight", room.truth(0), 0);
        room.wire(0, true);
        room.bend(0, -9, 0);
        room.flight(false, 70, 60, 0, 0, 5, 1);
        room.flight(false, 66, 60, 0, 0, 5, 1);
        room.pass(4);
        Checks.is("where it should be", room.where(0, 6, false), 68);
        Checks.is("the smaller number of two", room.truth(0), 1);
        Checks.refuses(room, "truth(1)", Checks.INDEX, () -> room.truth(1));
        Checks.refuses(room, "truth(-1)", Checks.INDEX, () -> room.truth(-1));
        room.bend(1, 9, 0);
        room.bend(2, 0, -9);
        room.pass(40);
        Checks.is("none is up", room.room(1), 0);
        Checks.is("nothing behind it", room.truth(0), -1);
    }

    private static void siren() {
        Plotroom room = withMast(0);
        Checks.refuses(room, "siren without towns", Checks.INDEX, () -> room.siren(0));
        room.flight(true, 0, 100, 5, 0, 5, 19);
        room.town(65, 100, 50);
        room.town(66, 100, 20);
        room.town(5, 100, 10);
        room.town(4, 100, 5);
        room.pass(2);
        Checks.is("two hits are not hostile", room.siren(0), false);
        room.pass(1);
        Checks.is("near in 8", room.siren(0), true);
        Checks.is("near in 9", room.siren(1), false);
        Checks.is("near now", room.siren(2), true);
        Checks.is("near no more", room.siren(3), false);
        Checks.is("work of two", room.room(17), 60);
        room.plan(3, 3, 15, 100, 1);
        Checks.is("a friend", room.siren(0), false);
        room.wire(0, true);
        room.pass(6);
        Checks.is("a friend still", room.siren(1), false);
        room.pass(1);
        room.wire(0, false);
        room.pass(3);
        Checks.is("hostile again", room.siren(1), true);
        room.wire(0, true);
        room.pass(7);
        Checks.is("lost", room.siren(1), false);
        Checks.refuses(room, "siren(4)", Checks.INDEX, () -> room.siren(4));
        Checks.refuses(room, "siren(-1)", Checks.INDEX, () -> room.siren(-1));
    }

    private static void table() {
        Plotroom room = withMast(0);
        room.gate(1);
        room.flight(true, 39, 97, 0, 0, 5, 1);
        room.flight(true, 40, 99, 0, 0, 5, 1);
        room.flight(true, 59, 80, 0, 0, 5, 1);
        room.flight(true, 199, 199, 0, 0, 5, 1);
        for (int i = 0; i < 7; i++) {
            room.flight(true, 42 + 2 * i, 90, 0, 0, 5, 1);
        }
        Checks.isText("no tracks yet", room.table(4), "..........");
        room.pass(1);
        Checks.isText("table(4)", room.table(4), ".19.......");
        Checks.isText("table(9)", room.table(9), ".........1");
        Checks.isText("table(5)", room.table(5), "..........");
        room.bend(0, 1, 0);
        room.pass(1);
        Checks.isText("more than 9", room.table(4), "..9.......");
        Checks.is("11 live tracks", room.room(5), 11);
        room.wire(0, true);
        room.pass(6);
        Checks.isText("live still", room.table(9), ".........1");
        room.pass(1);
        Checks.isText("lost", room.table(9), "..........");
        Checks.refuses(room, "table(-1)", Checks.INDEX, () -> room.table(-1));
        Checks.refuses(room, "table(10)", Checks.INDEX, () -> room.table(10));
    }

    private static void seen() {
        Plotroom room = new Plotroom();
        room.mast(50, 50, 5, 0, 0, 0);
        room.flight(true, 50, 50, 0, 0, 5, 1);
        Checks.isPart("not on the table yet", room.seen(), 0.0);
        room.pass(1);
        Checks.isPart("on the table", room.seen(), 1.0);
        room.flight(false, 62, 66, 0, 0, 5, 1);
        Checks.isPart("within 20 of it", room.seen(), 1.0);
        room.flight(false, 62, 67, 0, 0, 5, 1);
        Checks.isPart("farther than 20", room.seen(), 2.0 / 3);
        room.flight(false, 150, 150, 0, 0, 5, 1);
        Checks.isPart("two of four", room.seen(), 0.5);
        room.wire(0, true);
        room.pass(7);
        Checks.isPart("lost", room.seen(), 0.0);
        for (int i = 0; i < 4; i++) {
            room.bend(i, 9, 9);
        }
        room.pass(30);
        Checks.isPart("none is up", room.seen(), 1.0);
    }

    private TableTest() {
    }
}
