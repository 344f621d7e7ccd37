/** Rooms that the tests begin with. */
final class Rooms {
    /**
     * A room in which all goes on: plots are on their way, track 0 is live and hostile, squadron 0 is up, 1 on its
     * way home, 2 ordered, 3 grounded; 3 masts, 2 stations, 2 guns (1 lent), 2 towns, 3 flights, 1 plan, gate 15.
     */
    static Plotroom lively() {
        Plotroom room = new Plotroom();
        room.mast(100, 100, 150, 0, 3, 2);
        room.mast(90, 90, 90, 1, 0, 0);
        room.mast(80, 120, 60, 2, 1, 5);
        room.station(70, 70);
        room.station(130, 70);
        room.squadron(0, 7, 10, 60, 2);
        room.squadron(1, 5, 12, 50, 1);
        room.squadron(1, 9, 8, 40, 9);
        room.squadron(0, 3, 15, 30, 3);
        room.gun(100, 110, 20);
        room.gun(60, 60, 5);
        room.town(95, 95, 30);
        room.town(150, 150, 20);
        room.flight(true, 100, 100, 1, 1, 5, 40);
        room.flight(true, 160, 100, -2, 0, 6, 12);
        room.flight(false, 60, 150, 0, -1, 7, 8);
        room.plan(0, 9, 60, 145, 20);
        room.gate(15);
        room.lend(1, true);
        room.pass(3);
        room.scramble(0, 0);
        room.scramble(1, 0);
        room.scramble(2, 0);
        room.pass(3);
        room.back(1);
        return room;
    }

    /** A room that has all it can have: 5 masts, 4 stations, 8 squadrons, 6 guns, 6 towns, 12 flights, 10 plans, 16 tracks. */
    static Plotroom full() {
        Plotroom room = new Plotroom();
        for (int i = 0; i < 5; i++) {
            room.mast(100 + i, 90, 150, 0, i, i);
        }
        for (int i = 0; i < 4; i++) {
            room.station(70 + 20 * i, 100);
        }
        for (int i = 0; i < 8; i++) {
            room.squadron(i / 2, 12 - i, 20 - i, 99 - i, 1 + i);
        }
        for (int i = 0; i < 6; i++) {
            room.gun(60 + 15 * i, 120, 20 - i);
            room.town(60 + 15 * i, 140, 10 + i);
        }
        for (int i = 0; i < 12; i++) {
            room.flight(i % 4 > 0, 40 + 10 * i, 60, 0, i % 3, 1 + i % 9, 50 + i);
        }
        for (int i = 0; i < 10; i++) {
            room.plan(i, 2 * i, 40 + 10 * i, 65, 3 + i);
        }
        room.gate(1);
        room.pass(5);
        room.scramble(0, 15);
        room.scramble(5, 15);
        return room;
    }

    private Rooms() {
    }
}
