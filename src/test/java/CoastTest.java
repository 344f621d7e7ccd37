/** Promises 1 to 9: a new object, and what is told of the coast. */
public final class CoastTest {
    public static void main(String[] args) {
        newObject();
        mast();
        wire();
        station();
        squadron();
        gun();
        lend();
        town();
        gate();
        Checks.end();
    }

    private static void newObject() {
        Plotroom room = new Plotroom();
        long d = 7001;
        for (int what = 0; what <= 20; what++) {
            Checks.is("new room(" + what + ")", room.room(what), 0);
            d = d * 31;
        }
        Checks.isPart("new seen()", room.seen(), 1.0);
        Checks.is("new isSound()", room.isSound(), true);
        Checks.is("new digest()", room.digest(), (d * 31 + 64) * 31 + 1);
        for (int row = 0; row < 10; row++) {
            Checks.isText("new table()", room.table(row), "..........");
        }
        Checks.refuses(room, "ofMast in a new room", Checks.INDEX, () -> room.ofMast(0, 0));
        Checks.refuses(room, "gun in a new room", Checks.INDEX, () -> room.lend(0, true));
        Checks.refuses(room, "town in a new room", Checks.INDEX, () -> room.siren(0));
        Checks.refuses(room, "station in a new room", Checks.INDEX, () -> room.squadron(0, 1, 5, 10, 1));
        Checks.is("gate of a new room", room.gate(12), 12);
        Plotroom other = new Plotroom();
        other.mast(1, 1, 1, 1, 1, 1);
        Checks.refuses(room, "another room's mast", Checks.INDEX, () -> room.ofMast(0, 0));
    }

    private static void mast() {
        Plotroom room = new Plotroom();
        int[][] wrong = {
            {-1, 0, 1, 0, 0, 0}, {200, 0, 1, 0, 0, 0}, {0, -1, 1, 0, 0, 0}, {0, 200, 1, 0, 0, 0},
            {0, 0, 0, 0, 0, 0}, {0, 0, 151, 0, 0, 0}, {0, 0, 1, -1, 0, 0}, {0, 0, 1, 10, 0, 0},
            {0, 0, 1, 0, -1, 0}, {0, 0, 1, 0, 10, 0}, {0, 0, 1, 0, 0, -1}, {0, 0, 1, 0, 0, 6},
            {Integer.MIN_VALUE, 0, 1, 0, 0, 0}, {0, 0, Integer.MAX_VALUE, 0, 0, 0},
        };
        for (int[] w : wrong) {
            Checks.refuses(room, "wrong mast", Checks.ARGUMENT, () -> room.mast(w[0], w[1], w[2], w[3], w[4], w[5]));
        }
        Checks.is("first mast", room.mast(0, 0, 1, 0, 0, 0), 0);
        Checks.is("second mast", room.mast(199, 198, 150, 9, 8, 5), 1);
        int[] due = {199, 198, 150, 9, 8, 5, 0, 0, 0, 0};
        for (int what = 0; what < 10; what++) {
            Checks.is("ofMast(1, " + what + ")", room.ofMast(1, what), due[what]);
        }
        Checks.is("third mast", room.mast(1, 2, 3, 4, 9, 1), 2);
        Checks.is("fourth mast", room.mast(1, 2, 3, 4, 5, 1), 3);
        Checks.is("fifth mast", room.mast(1, 2, 3, 4, 5, 1), 4);
        Checks.refuses(room, "sixth mast", Checks.STATE, () -> room.mast(1, 2, 3, 4, 5, 1));
        Checks.refuses(room, "sixth mast, wrong", Checks.ARGUMENT, () -> room.mast(1, 2, 0, 4, 5, 1));
    }

    private static void wire() {
        Plotroom room = new Plotroom();
        Checks.refuses(room, "wire without masts", Checks.INDEX, () -> room.wire(0, true));
        room.mast(10, 10, 10, 0, 0, 0);
        room.mast(10, 10, 10, 0, 0, 0);
        Checks.is("wire was whole", room.wire(1, true), false);
        Checks.is("it is cut", room.ofMast(1, 6), 1);
        Checks.is("the other one is not", room.ofMast(0, 6), 0);
        Checks.is("wire was cut", room.wire(1, true), true);
        Checks.is("wire was cut still", room.wire(1, false), true);
        Checks.is("wire was whole again", room.wire(1, false), false);
        Checks.is("it is whole", room.ofMast(1, 6), 0);
        Checks.refuses(room, "wire(-1)", Checks.INDEX, () -> room.wire(-1, true));
        Checks.refuses(room, "wire(2)", Checks.INDEX, () -> room.wire(2, true));
    }

    private static void station() {
        Plotroom room = new Plotroom();
        int[][] wrong = {{-1, 0}, {200, 0}, {0, -1}, {0, 200}};
        for (int[] w : wrong) {
            Checks.refuses(room, "wrong station", Checks.ARGUMENT, () -> room.station(w[0], w[1]));
        }
        Checks.is("first station", room.station(0, 199), 0);
        Checks.is("second station", room.station(199, 0), 1);
        Checks.is("third station", room.station(7, 8), 2);
        Checks.is("fourth station", room.station(7, 8), 3);
        Checks.refuses(room, "fifth station", Checks.STATE, () -> room.station(7, 8));
        Checks.refuses(room, "fifth station, wrong", Checks.ARGUMENT, () -> room.station(7, 200));
        room.squadron(1, 1, 5, 10, 1);
        Checks.is("x of the station", room.ofSquadron(0, 3), 199);
        Checks.is("y of the station", room.ofSquadron(0, 4), 0);
    }

    private static void squadron() {
        Plotroom room = new Plotroom();
        Checks.refuses(room, "no station, wrong", Checks.INDEX, () -> room.squadron(0, 0, 0, 0, 0));
        room.station(30, 40);
        room.station(50, 60);
        int[][] wrong = {
            {0, 5, 10, 1}, {13, 5, 10, 1}, {1, 4, 10, 1}, {1, 21, 10, 1},
            {1, 5, 9, 1}, {1, 5, 100, 1}, {1, 5, 10, 0}, {1, 5, 10, 16},
        };
        for (int[] w : wrong) {
            Checks.refuses(room, "wrong squadron", Checks.ARGUMENT, () -> room.squadron(0, w[0], w[1], w[2], w[3]));
        }
        Checks.refuses(room, "squadron(-1)", Checks.INDEX, () -> room.squadron(-1, 1, 5, 10, 1));
        Checks.refuses(room, "squadron(2)", Checks.INDEX, () -> room.squadron(2, 1, 5, 10, 1));
        Checks.is("first squadron", room.squadron(0, 1, 5, 10, 1), 0);
        Checks.is("second squadron", room.squadron(1, 12, 20, 99, 15), 1);
        int[] due = {1, 12, 0, 50, 60, 99, -1, -1, 3, 0};
        for (int what = 0; what < 10; what++) {
            Checks.is("ofSquadron(1, " + what + ")", room.ofSquadron(1, what), due[what]);
        }
        for (int i = 2; i < 8; i++) {
            Checks.is("more squadrons", room.squadron(0, 2, 6, 11, 2), i);
        }
        Checks.refuses(room, "ninth squadron", Checks.STATE, () -> room.squadron(0, 2, 6, 11, 2));
        Checks.refuses(room, "ninth squadron, wrong", Checks.ARGUMENT, () -> room.squadron(0, 2, 6, 9, 2));
        Checks.refuses(room, "ninth squadron, no station", Checks.INDEX, () -> room.squadron(2, 2, 6, 9, 2));
    }

    private static void gun() {
        Plotroom room = new Plotroom();
        int[][] wrong = {{-1, 0, 1}, {200, 0, 1}, {0, -1, 1}, {0, 200, 1}, {0, 0, 0}, {0, 0, 21}};
        for (int[] w : wrong) {
            Checks.refuses(room, "wrong gun", Checks.ARGUMENT, () -> room.gun(w[0], w[1], w[2]));
        }
        Checks.is("first gun", room.gun(0, 0, 1), 0);
        Checks.is("second gun", room.gun(199, 199, 20), 1);
        for (int i = 2; i < 6; i++) {
            Checks.is("more guns", room.gun(9, 9, 9), i);
        }
        Checks.refuses(room, "seventh gun", Checks.STATE, () -> room.gun(9, 9, 9));
        Checks.refuses(room, "seventh gun, wrong", Checks.ARGUMENT, () -> room.gun(9, 9, 21));
    }

    private static void lend() {
        Plotroom room = new Plotroom();
        Checks.refuses(room, "lend without guns", Checks.INDEX, () -> room.lend(0, true));
        room.gun(50, 50, 10);
        room.gun(50, 50, 10);
        Checks.is("lend nothing", room.lend(0, false), 0);
        Checks.is("lend one", room.lend(1, true), 1);
        Checks.is("lend it again", room.lend(1, true), 1);
        Checks.is("lend both", room.lend(0, true), 2);
        Checks.refuses(room, "lend(2)", Checks.INDEX, () -> room.lend(2, true));
        Checks.refuses(room, "lend(-1)", Checks.INDEX, () -> room.lend(-1, true));
        room.flight(true, 50, 50, 0, 0, 1, 9);
        room.pass(1);
        Checks.is("lent guns do not fire", room.room(19), 0);
        Checks.is("take one back", room.lend(1, false), 1);
        room.pass(1);
        Checks.is("that one fires", room.room(19), 1);
    }

    private static void town() {
        Plotroom room = new Plotroom();
        int[][] wrong = {{-1, 0, 1}, {200, 0, 1}, {0, -1, 1}, {0, 200, 1}, {0, 0, 0}, {0, 0, 100}};
        for (int[] w : wrong) {
            Checks.refuses(room, "wrong town", Checks.ARGUMENT, () -> room.town(w[0], w[1], w[2]));
        }
        Checks.is("first town", room.town(0, 0, 1), 0);
        Checks.is("second town", room.town(199, 199, 99), 1);
        for (int i = 2; i < 6; i++) {
            Checks.is("more towns", room.town(9, 9, 9), i);
        }
        Checks.refuses(room, "seventh town", Checks.STATE, () -> room.town(9, 9, 9));
        Checks.refuses(room, "seventh town, wrong", Checks.ARGUMENT, () -> room.town(9, 9, 100));
    }

    private static void gate() {
        Plotroom room = new Plotroom();
        Checks.refuses(room, "gate(0)", Checks.ARGUMENT, () -> room.gate(0));
        Checks.refuses(room, "gate(41)", Checks.ARGUMENT, () -> room.gate(41));
        Checks.is("gate(40)", room.gate(40), 12);
        Checks.is("gate(1)", room.gate(1), 40);
        Checks.is("gate(12)", room.gate(12), 1);
        Checks.is("tracks of two flights 12 apart, gate 12", tracksOf(12, 12), 1);
        Checks.is("tracks of two flights 13 apart, gate 12", tracksOf(12, 13), 2);
        Checks.is("tracks of two flights 13 apart, gate 13", tracksOf(13, 13), 1);
    }

    private static int tracksOf(int gate, int apart) {
        Plotroom room = new Plotroom();
        room.gate(gate);
        room.mast(100, 100, 50, 0, 0, 0);
        room.flight(true, 100, 100, 0, 0, 1, 1);
        room.flight(true, 100, 100 + apart, 0, 0, 1, 1);
        room.pass(1);
        return room.room(4);
    }

    private CoastTest() {
    }
}
