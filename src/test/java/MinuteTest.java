/** How a minute goes (Terms 0 to 6), as pass (promise 17) brings it about; the drawn row is 11, 130, 171, 175, 146, 55, 52, 134, 142, 84, 143, 137, 60, 76, 201, 78, 66. */
public final class MinuteTest {
    public static void main(String[] args) {
        flightsMove();
        slip();
        courses();
        sameMinute();
        nearestTrack();
        oldPlots();
        wires();
        trackLimit();
        lostTracks();
        flyOutAndBack();
        turnsAsFuelIsBack();
        falls();
        targetLost();
        fight();
        fightLost();
        fightEdges();
        guns();
        gunsKeepStill();
        towns();
        Checks.end();
    }

    private static void track(Plotroom room, int track, int... due) {
        for (int what = 0; what < due.length; what++) {
            Checks.is("minute " + room.room(0) + ", ofTrack(" + track + ", " + what + ")", room.ofTrack(track, what), due[what]);
        }
    }

    private static void flightsMove() {
        Plotroom room = new Plotroom();
        room.flight(true, 198, 1, 1, -1, 1, 1);
        room.flight(true, 0, 199, 0, 1, 1, 1);
        room.pass(1);
        Checks.is("x at the edge", room.ofFlight(0, 0), 199);
        Checks.is("y at the edge", room.ofFlight(0, 1), 0);
        Checks.is("up at the edge", room.ofFlight(0, 6), 1);
        Checks.is("the other one has left", room.ofFlight(1, 6), 0);
        Checks.is("where it was last", room.ofFlight(1, 1), 199);
        room.pass(1);
        Checks.is("left by both", room.ofFlight(0, 6), 0);
        Checks.is("x where it was last", room.ofFlight(0, 0), 199);
        Checks.is("y where it was last", room.ofFlight(0, 1), 0);
        Checks.is("none up", room.room(1), 0);
        Checks.is("no plots, no draws", room.room(19), 0);
    }

    private static void slip() {
        Plotroom room = new Plotroom();
        room.mast(100, 100, 150, 0, 9, 0);
        room.flight(true, 0, 199, 0, 0, 1, 10);
        room.pass(1);
        track(room, 0, 2, 199, 1, 0, 0, 10, 1, 1, 1, 0, 0);
        room.pass(1);
        track(room, 0, 0, 194, 2, -20, -50, 10, 2, 1, 1, 0, 0);
        Checks.is("where x is held to 0", room.where(0, 3, false), 0);
        Checks.is("where y", room.where(0, 3, true), 189);
        room.pass(1);
        track(room, 0, 4, 199, 3, 10, 0, 10, 3, 1, 2, 0, 0);
        Checks.is("two draws for each plot", room.room(19), 6);
    }

    private static void courses() {
        Plotroom room = new Plotroom();
        room.mast(50, 50, 20, 0, 0, 0);
        room.flight(true, 50, 50, 1, -1, 1, 29);
        room.pass(1);
        track(room, 0, 51, 49, 1, 0, 0, 20, 1);
        room.wire(0, true);
        room.pass(1);
        room.bend(0, 0, 0);
        room.pass(1);
        track(room, 0, 51, 49, 1, 0, 0, 20, 1, 1, 1, 2, 0);
        room.wire(0, false);
        room.pass(1);
        track(room, 0, 52, 48, 4, 3, -3, 20, 2);
        room.pass(1);
        track(room, 0, 52, 48, 5, 1, -1, 20, 3);
        Checks.is("9 minutes at a tenth", room.where(0, 14, false), 52);
        Checks.is("10 minutes at a tenth", room.where(0, 15, false), 53);
        Checks.is("19 minutes back at a tenth", room.where(0, 24, true), 47);
    }

    private static void sameMinute() {
        Plotroom room = new Plotroom();
        room.mast(100, 100, 50, 0, 0, 0);
        room.mast(100, 100, 50, 0, 9, 0);
        room.flight(true, 100, 100, 0, 0, 1, 7);
        room.pass(1);
        track(room, 0, 95, 97, 1, 0, 0, 7, 2);
        room.pass(1);
        track(room, 0, 102, 96, 2, 50, 30, 7, 4);
        Checks.is("one track", room.room(4), 1);
    }

    private static void nearestTrack() {
        Plotroom room = new Plotroom();
        room.mast(100, 100, 50, 0, 0, 0);
        room.flight(true, 100, 100, 0, 0, 1, 3);
        room.flight(true, 114, 100, 0, 0, 1, 5);
        room.flight(true, 107, 100, 0, 0, 1, 9);
        room.pass(1);
        track(room, 0, 103, 100, 1, 0, 0, 9, 2);
        track(room, 1, 114, 100, 1, 0, 0, 5, 1);

        Plotroom nearer = new Plotroom();
        nearer.mast(100, 100, 50, 0, 0, 0);
        nearer.flight(true, 100, 100, 0, 0, 1, 3);
        nearer.flight(true, 114, 100, 0, 0, 1, 5);
        nearer.flight(true, 108, 100, 0, 0, 1, 9);
        nearer.pass(1);
        track(nearer, 0, 100, 100, 1, 0, 0, 3, 1);
        track(nearer, 1, 111, 100, 1, 0, 0, 9, 2);
    }

    /** A plot that was seen ahead of a track's minute never goes into it. */
    private static void oldPlots() {
        Plotroom room = new Plotroom();
        room.mast(50, 50, 50, 0, 0, 1);
        room.mast(50, 50, 50, 0, 0, 0);
        room.flight(true, 50, 50, 0, 0, 1, 3);
        room.pass(1);
        Checks.is("on its way", room.room(8), 1);
        track(room, 0, 50, 50, 1, 0, 0, 3, 1);
        room.pass(1);
        track(room, 0, 50, 50, 2, 0, 0, 3, 3);
        room.wire(0, true);
        room.wire(1, true);
        room.pass(1);
        room.wire(0, false);
        room.wire(1, false);
        room.pass(1);
        track(room, 0, 50, 50, 4, 0, 0, 3, 5);
        Checks.is("the old one came ahead of the new one", room.room(4), 1);

        Plotroom late = new Plotroom();
        late.mast(50, 50, 50, 0, 0, 2);
        late.mast(50, 50, 50, 0, 0, 0);
        late.flight(true, 50, 50, 0, 0, 1, 3);
        late.pass(2);
        track(late, 0, 50, 50, 2, 0, 0, 3, 2);
        late.pass(1);
        Checks.is("a track of its own", late.room(4), 2);
        track(late, 1, 50, 50, 1, 0, 0, 3, 1, 1, 1, 2, 0);
        track(late, 0, 50, 50, 3, 0, 0, 3, 3);
        late.pass(1);
        track(late, 1, 50, 50, 2, 0, 0, 3, 2);
        track(late, 0, 50, 50, 4, 0, 0, 3, 4);
    }

    private static void wires() {
        Plotroom room = new Plotroom();
        room.mast(100, 100, 50, 0, 0, 2);
        room.flight(true, 100, 100, 0, 0, 1, 3);
        room.pass(1);
        Checks.is("on its way", room.room(8), 1);
        Checks.is("no track", room.room(4), 0);
        room.wire(0, true);
        room.pass(1);
        Checks.is("two on their way", room.room(8), 2);
        room.pass(1);
        Checks.is("made", room.ofMast(0, 7), 3);
        Checks.is("came", room.ofMast(0, 8), 0);
        Checks.is("lost", room.ofMast(0, 9), 1);
        Checks.is("on their way still", room.room(8), 2);
        room.wire(0, false);
        room.pass(1);
        Checks.is("one came", room.ofMast(0, 8), 1);
        track(room, 0, 100, 100, 2, 0, 0, 3, 1, 1, 1, 2, 0);
        room.pass(1);
        track(room, 0, 100, 100, 3, 0, 0, 3, 2, 1, 1, 2, 0);
        Checks.is("sound", room.isSound(), true);
    }

    private static void trackLimit() {
        Plotroom room = new Plotroom();
        room.gate(1);
        room.mast(100, 100, 150, 0, 0, 0);
        for (int i = 0; i < 12; i++) {
            room.flight(true, 20, 10 + 10 * i, 9, 0, 1, 3);
        }
        room.pass(1);
        Checks.is("12 tracks", room.room(4), 12);
        Checks.is("none lost", room.room(9), 0);
        room.pass(1);
        Checks.is("16 tracks", room.room(4), 16);
        Checks.is("8 lost", room.room(9), 8);
        Checks.is("all came", room.ofMast(0, 8), 24);
        room.pass(9);
        Checks.is("16 ever", room.room(4), 16);
        Checks.is("none is live", room.room(5), 0);
        Checks.is("sound", room.isSound(), true);
    }

    private static void lostTracks() {
        Plotroom room = new Plotroom();
        room.mast(100, 100, 50, 0, 0, 5);
        room.flight(true, 100, 100, 0, 0, 1, 3);
        room.pass(6);
        track(room, 0, 100, 100, 1, 0, 0, 3, 1, 1, 1, 5, 0);
        room.wire(0, true);
        room.pass(1);
        track(room, 0, 100, 100, 1, 0, 0, 3, 1, 1, 1, 6, 0);
        room.pass(1);
        track(room, 0, 100, 100, 1, 0, 0, 3, 1, 0, 1, 7, 0);
        room.wire(0, false);
        room.pass(1);
        Checks.is("a new track for the next plot", room.room(4), 2);
        track(room, 0, 100, 100, 1, 0, 0, 3, 1, 0);
        track(room, 1, 100, 100, 4, 0, 0, 3, 1, 1, 1, 5, 0);
    }

    private static void squadron(Plotroom room, int state, int x, int y, int fuel, int machines) {
        String ahead = "minute " + room.room(0) + ", squadron 0, ";
        Checks.is(ahead + "state", room.ofSquadron(0, 2), state);
        Checks.is(ahead + "x", room.ofSquadron(0, 3), x);
        Checks.is(ahead + "y", room.ofSquadron(0, 4), y);
        Checks.is(ahead + "fuel", room.ofSquadron(0, 5), fuel);
        Checks.is(ahead + "machines", room.ofSquadron(0, 1), machines);
    }

    private static void flyOutAndBack() {
        Plotroom room = new Plotroom();
        room.mast(60, 0, 20, 0, 0, 0);
        room.flight(false, 60, 0, 0, 0, 1, 3);
        room.station(0, 0);
        room.squadron(0, 4, 5, 10, 1);
        room.pass(1);
        room.scramble(0, 0);
        int[][] due = {{2, 0, 10}, {2, 5, 9}, {2, 10, 8}, {2, 15, 7}, {2, 20, 6}, {3, 15, 5}, {3, 10, 4}, {3, 5, 3}, {4, 0, 10}};
        int[] back = {3, 4, 5, 6, 7, 6, 5, 4, 3};
        for (int i = 0; i < due.length; i++) {
            room.pass(1);
            squadron(room, due[i][0], due[i][1], 0, due[i][2], 4);
            Checks.is("back", room.ofSquadron(0, 8), back[i]);
        }
    }

    private static void turnsAsFuelIsBack() {
        Plotroom room = new Plotroom();
        room.mast(60, 0, 20, 0, 0, 0);
        room.flight(false, 60, 0, 0, 0, 1, 3);
        room.station(0, 0);
        room.squadron(0, 4, 5, 11, 1);
        room.pass(1);
        room.scramble(0, 0);
        room.pass(5);
        squadron(room, 2, 20, 0, 7, 4);
        Checks.is("fuel is back", room.ofSquadron(0, 8), 7);
        room.pass(1);
        squadron(room, 3, 15, 0, 6, 4);
    }

    /** Steps rounded toward 0 make the way back of a slow one longer than it is reckoned. */
    private static void falls() {
        Plotroom room = new Plotroom();
        room.mast(199, 199, 20, 0, 0, 0);
        room.flight(false, 199, 199, 0, 0, 1, 3);
        room.station(0, 0);
        room.squadron(0, 7, 5, 99, 1);
        room.pass(1);
        room.scramble(0, 0);
        room.pass(1);
        squadron(room, 2, 0, 0, 99, 7);
        room.pass(51);
        squadron(room, 2, 153, 153, 48, 7);
        Checks.is("back at 153, 153", room.ofSquadron(0, 8), 47);
        room.pass(1);
        squadron(room, 2, 156, 156, 47, 7);
        Checks.is("back at 156, 156", room.ofSquadron(0, 8), 48);
        room.pass(46);
        squadron(room, 3, 18, 18, 1, 7);
        Checks.is("sound with the last fuel", room.isSound(), true);
        room.pass(1);
        squadron(room, 0, 0, 0, 99, 0);
        Checks.is("machines lost", room.room(15), 7);
        Checks.is("in the air", room.room(10), 0);
        Checks.refuses(room, "scramble without machines", Checks.STATE, () -> room.scramble(0, 0));
        Checks.is("best without machines", room.best(0), -1);
        Checks.is("new machines", room.reinforce(0, 2), 2);
    }

    private static void targetLost() {
        Plotroom room = new Plotroom();
        room.mast(60, 0, 20, 0, 0, 0);
        room.flight(false, 60, 0, 0, 0, 1, 3);
        room.station(0, 0);
        room.squadron(0, 4, 10, 50, 2);
        room.pass(1);
        room.wire(0, true);
        room.scramble(0, 0);
        room.pass(6);
        squadron(room, 2, 40, 0, 46, 4);
        room.pass(1);
        squadron(room, 2, 50, 0, 45, 4);
        Checks.is("the track is lost", room.ofTrack(0, 7), 0);
        Checks.is("it goes for that still", room.ofSquadron(0, 6), 0);
        room.pass(1);
        squadron(room, 3, 40, 0, 44, 4);
        Checks.is("it goes for none", room.ofSquadron(0, 6), -1);
    }

    /** A foe (or a friend) that stands at a station, and a squadron that is up there in minute 2. */
    private static Plotroom atStation(boolean isFoe, int count, int machines) {
        Plotroom room = new Plotroom();
        room.mast(100, 100, 50, 0, 0, 0);
        room.flight(isFoe, 100, 100, 0, 0, 5, count);
        room.station(100, 100);
        room.squadron(0, machines, 10, 50, 1);
        room.pass(1);
        room.scramble(0, 0);
        room.pass(1);
        return room;
    }

    private static void fights(Plotroom room, int count, int fights, int won, int claims, int lost, int drawn) {
        String ahead = "minute " + room.room(0) + ", ";
        Checks.is(ahead + "count", room.ofFlight(0, 5), count);
        Checks.is(ahead + "fights", room.room(12), fights);
        Checks.is(ahead + "won", room.room(13), won);
        Checks.is(ahead + "won by the squadron", room.ofSquadron(0, 9), won);
        Checks.is(ahead + "claims", room.room(14), claims);
        Checks.is(ahead + "machines lost", room.room(15), lost);
        Checks.is(ahead + "drawn", room.room(19), drawn);
    }

    private static void fight() {
        Plotroom room = atStation(true, 20, 12);
        fights(room, 14, 1, 6, 9, 0, 6);
        room.pass(1);
        fights(room, 5, 2, 15, 22, 0, 10);
        room.pass(1);
        fights(room, 2, 3, 18, 26, 0, 14);
        Checks.is("up still", room.ofFlight(0, 6), 1);
        room.pass(1);
        fights(room, 0, 4, 20, 29, 0, 17);
        Checks.is("gone", room.ofFlight(0, 6), 0);
        room.pass(1);
        fights(room, 0, 4, 20, 29, 0, 17);

        Plotroom friend = atStation(false, 20, 12);
        fights(friend, 20, 0, 0, 0, 0, 4);
    }

    private static void fightLost() {
        Plotroom room = atStation(true, 99, 1);
        fights(room, 99, 1, 0, 0, 1, 6);
        squadron(room, 0, 100, 100, 50, 0);
        Checks.is("without a track", room.ofSquadron(0, 6), -1);
        Plotroom more = atStation(true, 99, 3);
        fights(more, 98, 1, 1, 1, 2, 6);
        squadron(more, 2, 100, 100, 50, 1);
        Checks.is("sound with the last machine", more.isSound(), true);
        fights(atStation(true, 46, 12), 40, 1, 6, 9, 1, 6);
        fights(atStation(true, 45, 12), 39, 1, 6, 9, 0, 6);
        fights(atStation(true, 7, 12), 1, 1, 6, 9, 0, 6);
        fights(atStation(true, 6, 12), 0, 1, 6, 9, 0, 5);
    }

    /** The mast sees the own flight alone, so that the squadron stays at its station. */
    private static void fightEdges() {
        Plotroom room = new Plotroom();
        room.mast(100, 100, 50, 4, 0, 0);
        room.flight(false, 100, 100, 0, 0, 5, 3);
        room.flight(true, 106, 100, 0, 0, 4, 9);
        room.flight(true, 100, 105, 0, 0, 4, 9);
        room.flight(true, 95, 100, 0, 0, 4, 9);
        room.station(100, 100);
        room.squadron(0, 4, 10, 50, 1);
        room.pass(1);
        room.scramble(0, 0);
        room.pass(1);
        Checks.is("one fight", room.room(12), 1);
        Checks.is("not with the farther one", room.ofFlight(1, 5), 9);
        Checks.is("with the smaller number of the near ones", room.ofFlight(2, 5), 9 - room.room(13));
        Checks.is("not with the other near one", room.ofFlight(3, 5), 9);
        room.bend(2, 0, 9);
        room.bend(3, -9, 0);
        int won = room.room(13);
        room.pass(1);
        Checks.is("within 6", room.ofFlight(1, 5), 9 - (room.room(13) - won));
        Checks.is("two fights", room.room(12), 2);
        room.bend(1, 1, 0);
        room.pass(1);
        Checks.is("none at 7", room.room(12), 2);
        room.bend(1, -1, 0);
        room.pass(1);
        Checks.is("three fights", room.room(12), 3);
        room.bend(1, 0, 0);
        room.back(0);
        room.pass(1);
        Checks.is("none of one that went home", room.room(12), 3);
    }

    private static void guns() {
        Plotroom room = new Plotroom();
        room.gun(100, 100, 20);
        room.flight(false, 100, 100, 0, 0, 1, 2);
        room.flight(true, 120, 100, 0, 0, 1, 2);
        room.flight(true, 121, 100, 0, 0, 1, 2);
        int[][] due = {{2, 1, 2}, {2, 0, 4}, {2, 0, 5}, {1, 0, 6}, {1, 0, 7}, {1, 0, 8}, {1, 0, 9}, {1, 0, 10}, {1, 0, 11}, {1, 0, 12}, {0, 0, 13}};
        for (int[] d : due) {
            room.pass(1);
            Checks.is("the own one, minute " + room.room(0), room.ofFlight(0, 5), d[0]);
            Checks.is("the foe, minute " + room.room(0), room.ofFlight(1, 5), d[1]);
            Checks.is("drawn, minute " + room.room(0), room.room(19), d[2]);
            Checks.is("shames, minute " + room.room(0), room.room(16), 2 - d[0]);
        }
        Checks.is("the own one is gone", room.ofFlight(0, 6), 0);
        Checks.is("the foe is gone", room.ofFlight(1, 6), 0);
        Checks.is("one is up", room.room(1), 1);
        room.pass(5);
        Checks.is("no more draws", room.room(19), 13);
        Checks.is("nothing was won", room.room(13), 0);
    }

    private static void gunsKeepStill() {
        Plotroom room = new Plotroom();
        room.mast(199, 199, 10, 0, 0, 0);
        room.flight(false, 199, 199, 0, 0, 1, 2);
        room.pass(1);
        room.wire(0, true);
        room.flight(true, 10, 20, 0, 0, 1, 50);
        room.gun(10, 10, 10);
        room.station(10, 0);
        room.squadron(0, 1, 10, 50, 1);
        int drawn = room.room(19);
        room.pass(1);
        Checks.is("it fires (2 draws for the plot)", room.room(19), drawn + 3);
        room.scramble(0, 0);
        room.pass(1);
        Checks.is("the squadron is up", room.ofSquadron(0, 2), 2);
        Checks.is("the squadron is too far for a fight", room.room(12), 0);
        Checks.is("it keeps still", room.room(19), drawn + 5);
        room.back(0);
        room.pass(1);
        Checks.is("the squadron is on the ground", room.ofSquadron(0, 2), 4);
        Checks.is("it fires again", room.room(19), drawn + 8);
    }

    private static void towns() {
        Plotroom room = new Plotroom();
        room.gate(1);
        room.mast(100, 100, 150, 0, 0, 0);
        room.flight(true, 100, 105, 0, 0, 1, 30);
        room.flight(true, 100, 94, 0, 0, 1, 5);
        room.flight(false, 100, 100, 0, 0, 1, 7);
        room.town(100, 100, 40);
        room.town(100, 80, 3);
        room.pass(1);
        Checks.is("lives of the first minute", room.room(18), 30);
        room.pass(1);
        Checks.is("lives of the second minute", room.room(18), 60);
        Checks.is("no work yet", room.room(17), 0);
        room.pass(1);
        Checks.is("lives as the siren sounds", room.room(18), 60);
        Checks.is("work as the siren sounds", room.room(17), 40);
        Checks.is("lives are no machines", room.ofFlight(0, 5), 30);
    }

    private MinuteTest() {
    }
}
