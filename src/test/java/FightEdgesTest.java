/** Terms 4 to 6 at their edges: squadrons, fights, guns, sirens, and the order of a minute. */
public final class FightEdgesTest {
    public static void main(String[] args) {
        readyIsCounted();
        comingUpIsAllOfATurn();
        goesWithinSpeed();
        goesByRoot();
        goesToWhereItShouldBe();
        backIsCounted();
        turnsAsFuelIsBack();
        turnsAsTrackIsLost();
        turningTakesTwelve();
        homeAtItsStation();
        landsWithTheLastFuel();
        fallsWithTheLastFuel();
        fightsWithinSix();
        fightsOfThoseThatAreUp();
        fightsWithFoesThatAreUp();
        fightsWithTheNearest();
        wonByEachDraw();
        wonIsNoMoreThanCount();
        secondDrawOnlyIfSomeAreLeft();
        machinesAreNoLessThanNone();
        machinesLostInAll();
        groundedWithoutMachines();
        claimsOfEachFight();
        fightsInTheirOrder();
        gunsWithinRadius();
        gunsThatAreLent();
        gunsAndSquadrons();
        gunsDrawForEach();
        shames();
        livesWithinFive();
        sirenWithinTen();
        sirenOfEightMinutes();
        workOrLives();
        orderOfAMinute();
        Checks.end();
    }

    private static void squadron(Plotroom room, int squadron, int state, int x, int y, int fuel, int machines) {
        String ahead = "minute " + room.room(0) + ", squadron " + squadron + ", ";
        Checks.is(ahead + "state", room.ofSquadron(squadron, 2), state);
        Checks.is(ahead + "x", room.ofSquadron(squadron, 3), x);
        Checks.is(ahead + "y", room.ofSquadron(squadron, 4), y);
        Checks.is(ahead + "fuel", room.ofSquadron(squadron, 5), fuel);
        Checks.is(ahead + "machines", room.ofSquadron(squadron, 1), machines);
    }

    /** An own flight stands at x, y, and track 0 with it; squadron 0 is told for a station, in minute 1. */
    private static Plotroom toward(int x, int y, int stationX, int stationY, int speed, int fuel, int ready) {
        Plotroom room = new Plotroom();
        room.mast(100, 100, 150, 0, 0, 0);
        room.flight(false, x, y, 0, 0, 9, 9);
        room.station(stationX, stationY);
        room.squadron(0, 6, speed, fuel, ready);
        room.pass(1);
        return room;
    }

    private static void readyIsCounted() {
        for (int ready = 1; ready <= 15; ready++) {
            Plotroom room = toward(100, 100, 150, 100, 10, 50, ready);
            Checks.is("up at", room.scramble(0, 0), 1 + ready);
            for (int i = 1; i < ready; i++) {
                room.pass(1);
                squadron(room, 0, 1, 150, 100, 50, 6);
                Checks.is("due", room.ofSquadron(0, 7), 1 + ready);
            }
            room.pass(1);
            squadron(room, 0, 2, 150, 100, 50, 6);
            Checks.is("due no more", room.ofSquadron(0, 7), -1);
            room.pass(1);
            squadron(room, 0, 2, 140, 100, 49, 6);
        }
    }

    private static void comingUpIsAllOfATurn() {
        Plotroom room = toward(100, 100, 150, 100, 10, 50, 2);
        room.flight(true, 150, 106, 0, 0, 5, 50);
        room.scramble(0, 0);
        room.pass(1);
        Checks.is("one that is ordered does not fight", room.room(12), 0);
        room.pass(1);
        Checks.is("it fights as it comes up", room.room(12), 1);
        Checks.is("at its station", room.ofSquadron(0, 3), 150);
        Checks.is("with all its fuel", room.ofSquadron(0, 5), 50);
    }

    /** Squadron 0 comes up at 100, 100 and has had one turn toward a track that is so far away. */
    private static void goes(int speed, int byX, int byY, int goneX, int goneY) {
        Plotroom room = toward(100 + byX, 100 + byY, 100, 100, speed, 50, 1);
        room.scramble(0, 0);
        room.pass(2);
        squadron(room, 0, 2, 100 + goneX, 100 + goneY, 49, 6);
    }

    private static void goesWithinSpeed() {
        goes(5, 5, 0, 5, 0);
        goes(5, 6, 0, 5, 0);
        goes(5, -5, 0, -5, 0);
        goes(5, -6, 0, -5, 0);
        goes(5, 3, 4, 3, 4);
        goes(5, 4, 4, 3, 3);
        goes(20, 0, 20, 0, 20);
        goes(20, 0, 21, 0, 20);
        goes(20, 0, -20, 0, -20);
        goes(20, 0, -21, 0, -20);
        goes(20, 12, 16, 12, 16);
        goes(20, 12, 17, 11, 16);
        goes(10, 0, 0, 0, 0);
    }

    /** D is 50 for a FAR of 2500, and 51 for 2501 and for 2581. */
    private static void goesByRoot() {
        goes(10, 30, 40, 6, 8);
        goes(10, -30, -40, -6, -8);
        goes(10, 50, 1, 9, 0);
        goes(10, 1, -50, 0, -9);
        goes(10, -30, -41, -5, -8);
        goes(10, 49, 9, 9, 1);
        goes(7, 50, 50, 4, 4);
        goes(9, -99, 99, -6, 6);
        goes(20, 60, 80, 12, 16);
        goes(20, 60, 81, 11, 16);
    }

    /** The track was at 68, 134 in minute 2 and goes by 4 and -3; the squadron needs no more than a turn to be with it. */
    private static void goesToWhereItShouldBe() {
        Plotroom room = new Plotroom();
        room.mast(100, 100, 150, 0, 0, 0);
        room.flight(false, 60, 140, 4, -3, 5, 9);
        room.station(80, 120);
        room.squadron(0, 6, 20, 50, 1);
        room.pass(2);
        room.wire(0, true);
        room.scramble(0, 0);
        room.pass(1);
        squadron(room, 0, 2, 80, 120, 50, 6);
        for (int i = 1; i <= 5; i++) {
            room.pass(1);
            squadron(room, 0, 2, 72 + 4 * i, 131 - 3 * i, 50 - i, 6);
        }
    }

    private static void backIsCounted() {
        int[][] due = {{5, 0, 3}, {5, 1, 4}, {5, 5, 4}, {5, 6, 5}, {5, 10, 5}, {20, 20, 4}, {20, 21, 5}, {20, 40, 5}, {20, 41, 6}};
        for (int[] d : due) {
            Plotroom room = toward(100 + d[1], 100, 100, 100, d[0], 99, 1);
            Checks.is("back on the ground", room.ofSquadron(0, 8), 3);
            room.scramble(0, 0);
            room.pass(12);
            Checks.is("x of squadron 0", room.ofSquadron(0, 3), 100 + d[1]);
            Checks.is("back at " + d[1] + " with speed " + d[0], room.ofSquadron(0, 8), d[2]);
        }
    }

    /** At its station BACK is 3: with 4 of fuel it stays up, with 3 it turns. */
    private static void turnsAsFuelIsBack() {
        Plotroom room = toward(100, 100, 100, 100, 10, 10, 1);
        room.scramble(0, 0);
        room.pass(1);
        for (int fuel = 10; fuel > 3; fuel--) {
            squadron(room, 0, 2, 100, 100, fuel, 6);
            room.pass(1);
        }
        squadron(room, 0, 2, 100, 100, 3, 6);
        Checks.is("back", room.ofSquadron(0, 8), 3);
        room.pass(1);
        squadron(room, 0, 4, 100, 100, 10, 6);
        Checks.is("its track no more", room.ofSquadron(0, 6), -1);
    }

    private static void turnsAsTrackIsLost() {
        Plotroom room = toward(100, 100, 199, 100, 10, 50, 1);
        room.wire(0, true);
        room.pass(4);
        room.scramble(0, 0);
        room.pass(1);
        squadron(room, 0, 2, 199, 100, 50, 6);
        room.pass(1);
        Checks.is("6 old", room.ofTrack(0, 9), 6);
        squadron(room, 0, 2, 189, 100, 49, 6);
        room.pass(1);
        Checks.is("lost in this minute", room.ofTrack(0, 7), 0);
        squadron(room, 0, 2, 179, 100, 48, 6);
        room.pass(1);
        squadron(room, 0, 3, 189, 100, 47, 6);

        Plotroom ordered = toward(100, 100, 199, 100, 10, 50, 9);
        ordered.wire(0, true);
        ordered.scramble(0, 0);
        ordered.pass(8);
        Checks.is("lost as it waits", ordered.ofTrack(0, 7), 0);
        squadron(ordered, 0, 1, 199, 100, 50, 6);
        Checks.is("its track still", ordered.ofSquadron(0, 6), 0);
        ordered.pass(1);
        squadron(ordered, 0, 2, 199, 100, 50, 6);
        ordered.pass(1);
        squadron(ordered, 0, 4, 199, 100, 50, 6);
    }

    private static void turningTakesTwelve() {
        Plotroom room = toward(120, 100, 100, 100, 10, 50, 1);
        room.scramble(0, 0);
        room.pass(3);
        squadron(room, 0, 2, 120, 100, 48, 6);
        room.back(0);
        room.pass(1);
        squadron(room, 0, 3, 110, 100, 47, 6);
        Checks.is("not due", room.ofSquadron(0, 7), -1);
        room.pass(1);
        squadron(room, 0, 4, 100, 100, 50, 6);
        int due = room.room(0) + 12;
        Checks.is("due in 12", room.ofSquadron(0, 7), due);
        for (int i = 1; i < 12; i++) {
            room.pass(1);
            Checks.is("turning", room.ofSquadron(0, 2), 4);
            Checks.is("due as it was", room.ofSquadron(0, 7), due);
        }
        room.pass(1);
        squadron(room, 0, 0, 100, 100, 50, 6);
        Checks.is("due no more", room.ofSquadron(0, 7), -1);
    }

    /** Straight above its station, or beside it, it is on its way still. */
    private static void homeAtItsStation() {
        int[][] ways = {{0, 20}, {0, -20}, {20, 0}, {-20, 0}};
        for (int[] way : ways) {
            Plotroom room = toward(100 + way[0], 120 + way[1], 100, 120, 10, 50, 1);
            room.scramble(0, 0);
            room.pass(3);
            squadron(room, 0, 2, 100 + way[0], 120 + way[1], 48, 6);
            room.back(0);
            room.pass(1);
            squadron(room, 0, 3, 100 + way[0] / 2, 120 + way[1] / 2, 47, 6);
            room.pass(1);
            squadron(room, 0, 4, 100, 120, 50, 6);
        }
    }

    /** Toward 100, 100 it makes 3 by x and by y of each 5; with 30 of fuel it turns at 45, 45 and needs all that it has left. */
    private static void landsWithTheLastFuel() {
        Plotroom room = toward(100, 100, 0, 0, 5, 30, 1);
        room.scramble(0, 0);
        room.pass(16);
        squadron(room, 0, 2, 45, 45, 15, 6);
        Checks.is("back", room.ofSquadron(0, 8), 16);
        room.pass(1);
        squadron(room, 0, 3, 42, 42, 14, 6);
        room.pass(13);
        squadron(room, 0, 3, 3, 3, 1, 6);
        Checks.is("sound with the last fuel", room.isSound(), true);
        room.pass(1);
        squadron(room, 0, 4, 0, 0, 30, 6);
        Checks.is("no machines lost", room.room(15), 0);
    }

    /** Toward 199, 199 it turns at 156, 156 with 47 of fuel, one turn of 3 by x and by y after the other. */
    private static void fallsWithTheLastFuel() {
        Plotroom room = toward(199, 199, 0, 0, 5, 99, 1);
        room.mast(199, 199, 9, 0, 0, 0);
        room.pass(1);
        room.scramble(0, 0);
        room.pass(53);
        squadron(room, 0, 2, 156, 156, 47, 6);
        room.pass(46);
        squadron(room, 0, 3, 18, 18, 1, 6);
        Checks.is("in the air", room.room(10), 1);
        Checks.is("sound", room.isSound(), true);
        room.pass(1);
        squadron(room, 0, 0, 0, 0, 99, 0);
        Checks.is("in the air no more", room.room(10), 0);
        Checks.is("machines lost", room.room(15), 6);
        Checks.is("no fights", room.room(12), 0);
        Checks.is("not due", room.ofSquadron(0, 7), -1);
        Checks.is("no track", room.ofSquadron(0, 6), -1);
        Checks.is("back on the ground", room.ofSquadron(0, 8), 3);
    }

    /** Squadron 0 comes up at 100, 100 in minute 2; the mast sees only its own flight there. */
    private static Plotroom withFoe(int machines, int byX, int byY, int count) {
        Plotroom room = new Plotroom();
        room.mast(100, 100, 20, 5, 0, 0);
        room.flight(false, 100, 100, 0, 0, 6, 9);
        room.station(100, 100);
        room.squadron(0, machines, 10, 50, 1);
        room.pass(1);
        room.flight(true, 100 + byX, 100 + byY, 0, 0, 5, count);
        room.scramble(0, 0);
        room.pass(1);
        return room;
    }

    private static void fightsWithinSix() {
        Checks.is("at 0", withFoe(9, 0, 0, 50).room(12), 1);
        Checks.is("at 6 by x", withFoe(9, 6, 0, 50).room(12), 1);
        Checks.is("at -6 by y", withFoe(9, 0, -6, 50).room(12), 1);
        Checks.is("at 7 by x", withFoe(9, 7, 0, 50).room(12), 0);
        Checks.is("at -7 by y", withFoe(9, 0, -7, 50).room(12), 0);
        Checks.is("at 4 and 4", withFoe(9, 4, 4, 50).room(12), 1);
        Checks.is("at 4 and 5", withFoe(9, 4, 5, 50).room(12), 0);
        Checks.is("at 1 and 6", withFoe(9, 1, 6, 50).room(12), 0);
        Checks.is("nothing is drawn without one", withFoe(9, 7, 0, 50).room(19), 4);
        Checks.is("two are drawn for one", withFoe(9, 6, 0, 50).room(19), 6);
    }

    private static void fightsOfThoseThatAreUp() {
        Plotroom room = withFoe(9, 0, 0, 99);
        Checks.is("up", room.room(12), 1);
        room.back(0);
        room.pass(1);
        Checks.is("turning", room.ofSquadron(0, 2), 4);
        Checks.is("none as it turns", room.room(12), 1);
        room.pass(12);
        Checks.is("grounded", room.ofSquadron(0, 2), 0);
        Checks.is("none on the ground", room.room(12), 1);

        Plotroom home = toward(100, 100, 150, 100, 10, 50, 1);
        home.scramble(0, 0);
        home.pass(5);
        squadron(home, 0, 2, 110, 100, 46, 6);
        home.back(0);
        home.flight(true, 120, 100, 0, 0, 9, 50);
        home.pass(1);
        squadron(home, 0, 3, 120, 100, 45, 6);
        Checks.is("none on its way home", home.room(12), 0);
    }

    private static void fightsWithFoesThatAreUp() {
        Plotroom room = withFoe(12, 0, 0, 6);
        Checks.is("one fight", room.room(12), 1);
        Checks.is("the foe is gone", room.ofFlight(1, 6), 0);
        room.pass(3);
        Checks.is("none with one that is gone, none with an own one", room.room(12), 1);

        Plotroom edge = new Plotroom();
        edge.mast(199, 100, 20, 5, 0, 0);
        edge.flight(false, 199, 100, 0, 0, 6, 9);
        edge.station(199, 100);
        edge.squadron(0, 9, 10, 50, 1);
        edge.pass(1);
        edge.flight(true, 199, 100, 1, 0, 5, 50);
        edge.scramble(0, 0);
        edge.pass(1);
        Checks.is("up", edge.ofSquadron(0, 2), 2);
        Checks.is("none with one that has left", edge.room(12), 0);
    }

    private static void fightsWithTheNearest() {
        int[][] due = {{5, 0, 0, 4, 2}, {0, 4, 5, 0, 1}, {5, 0, 3, 4, 1}, {3, 4, 0, -5, 1}, {4, 4, -4, -4, 1}, {4, 4, 4, 3, 2}, {7, 0, 6, 0, 2}};
        for (int[] d : due) {
            Plotroom room = new Plotroom();
            room.mast(100, 100, 20, 5, 0, 0);
            room.flight(false, 100, 100, 0, 0, 6, 9);
            room.station(100, 100);
            room.squadron(0, 9, 10, 50, 1);
            room.pass(1);
            room.flight(true, 100 + d[0], 100 + d[1], 0, 0, 5, 50);
            room.flight(true, 100 + d[2], 100 + d[3], 0, 0, 5, 50);
            room.scramble(0, 0);
            room.pass(1);
            Checks.is("one fight", room.room(12), 1);
            Checks.is("with flight " + d[4], room.ofFlight(d[4], 5), 50 - room.room(13));
            Checks.is("not with the other one", room.ofFlight(3 - d[4], 5), 50);
            Checks.is("won", room.room(13) > 0, true);
        }
    }

    /** Two flights at a place draw 4 numbers a minute, so the fight of minute 2 gets the fifth of the row ahead of it. */
    private static void wonByEachDraw() {
        int[] row = new int[40];
        row[0] = 11;
        for (int i = 1; i < row.length; i++) {
            row[i] = (53 * row[i - 1] + 29) % 241;
        }
        for (int own = 1; own <= 8; own++) {
            Plotroom room = new Plotroom();
            room.mast(100, 100, 20, 5, 0, 0);
            for (int i = 0; i < own; i++) {
                room.flight(false, 100, 100, 0, 0, 6, 9);
            }
            room.station(100, 100);
            room.squadron(0, 12, 10, 50, 1);
            room.pass(1);
            room.flight(true, 100, 100, 0, 0, 5, 99);
            room.scramble(0, 0);
            room.pass(1);
            int r = row[4 * own] % 6;
            int won = 12 * (2 + r) / 8;
            int lost = (99 - won) * (row[4 * own + 1] % 6) / 40;
            Checks.is("won with r " + r, room.ofSquadron(0, 9), won);
            Checks.is("count then", room.ofFlight(own, 5), 99 - won);
            Checks.is("machines then", room.ofSquadron(0, 1), Math.max(0, 12 - lost));
            Checks.is("machines lost", room.room(15), Math.min(12, lost));
            Checks.is("claims", room.room(14), won + won / 2);
            Checks.is("drawn", room.room(19), 4 * own + 2);
        }
    }

    /** The first draw of the fight is 146, so r is 2 and 12 machines win 6 at most. */
    private static void wonIsNoMoreThanCount() {
        for (int count = 1; count <= 8; count++) {
            Plotroom room = withFoe(12, 0, 0, count);
            int won = Math.min(6, count);
            Checks.is("won of " + count, room.room(13), won);
            Checks.is("won by the squadron", room.ofSquadron(0, 9), won);
            Checks.is("count of " + count, room.ofFlight(1, 5), count - won);
            Checks.is("up of " + count, room.ofFlight(1, 6), count > 6 ? 1 : 0);
            Checks.is("foes up", room.room(2), count > 6 ? 1 : 0);
            Checks.is("counts of foes up", room.room(3), count - won);
        }
    }

    private static void secondDrawOnlyIfSomeAreLeft() {
        Checks.is("none is left", withFoe(12, 0, 0, 6).room(19), 5);
        Checks.is("one is left", withFoe(12, 0, 0, 7).room(19), 6);
        Checks.is("nothing won, one is left", withFoe(1, 0, 0, 1).room(19), 6);
        Checks.is("nothing won", withFoe(1, 0, 0, 1).room(13), 0);
        Checks.is("nothing claimed", withFoe(1, 0, 0, 1).room(14), 0);
        Checks.is("a fight all the same", withFoe(1, 0, 0, 1).room(12), 1);
    }

    /** The second draw of the fight is 55, so r is 1: 40 that are left cost one machine, 80 cost two. */
    private static void machinesAreNoLessThanNone() {
        int[][] due = {{12, 45, 12}, {12, 46, 11}, {12, 85, 11}, {12, 86, 10}, {1, 39, 1}, {1, 40, 0}, {1, 80, 0}, {2, 80, 1}, {2, 81, 0}, {3, 81, 1}};
        for (int[] d : due) {
            Plotroom room = withFoe(d[0], 0, 0, d[1]);
            String name = "machines of " + d[0] + " in a fight with " + d[1];
            Checks.is(name, room.ofSquadron(0, 1), d[2]);
            Checks.is(name + ", lost", room.room(15), d[0] - d[2]);
            Checks.is(name + ", state", room.ofSquadron(0, 2), d[2] > 0 ? 2 : 0);
            Checks.is(name + ", sound", room.isSound(), true);
        }
    }

    /** Behind 55, with which 86 - 6 cost two, the second fight draws 142 and 84, the third 60 and 76. */
    private static void machinesLostInAll() {
        Plotroom room = withFoe(12, 0, 0, 86);
        int[] counts = {80, 73, 71};
        int[] machines = {10, 10, 3};
        for (int i = 0; i < counts.length; i++) {
            Checks.is("count after fight " + i, room.ofFlight(1, 5), counts[i]);
            Checks.is("machines after fight " + i, room.ofSquadron(0, 1), machines[i]);
            Checks.is("machines lost after fight " + i, room.room(15), 12 - machines[i]);
            room.pass(1);
        }
    }

    /** The fight draws 143 and 137 behind 8 for plots, so r is 5 twice: 6 machines win 5 and the 94 left cost 11. */
    private static void groundedWithoutMachines() {
        Plotroom room = toward(100, 100, 150, 100, 10, 50, 1);
        room.scramble(0, 0);
        room.pass(2);
        squadron(room, 0, 2, 140, 100, 49, 6);
        room.flight(true, 130, 100, 0, 0, 9, 99);
        room.pass(1);
        Checks.is("one fight", room.room(12), 1);
        Checks.is("count of the foe", room.ofFlight(1, 5), 94);
        squadron(room, 0, 0, 150, 100, 50, 0);
        Checks.is("its track", room.ofSquadron(0, 6), -1);
        Checks.is("not due", room.ofSquadron(0, 7), -1);
        Checks.is("won stays", room.ofSquadron(0, 9), 5);
        Checks.is("machines lost", room.room(15), 6);
        Checks.is("in the air", room.room(10), 0);
        Checks.is("talks to none", room.room(11), 0);
        Checks.is("sound", room.isSound(), true);
    }

    private static void claimsOfEachFight() {
        for (int count = 1; count <= 6; count++) {
            Plotroom room = withFoe(12, 0, 0, count);
            Checks.is("claims of " + count + " won", room.room(14), count + count / 2);
        }
        Plotroom room = withFoe(4, 0, 0, 99);
        int claims = 0;
        int won = 0;
        for (int i = 0; i < 5; i++) {
            int more = room.room(13) - won;
            won += more;
            claims += more + more / 2;
            Checks.is("claims of fight by fight", room.room(14), claims);
            Checks.is("sound", room.isSound(), true);
            room.pass(1);
        }
    }

    /** Two squadrons beside a foe: the smaller number fights first, and the second one finds none if none is left. */
    private static void fightsInTheirOrder() {
        for (int count = 5; count <= 7; count++) {
            Plotroom room = new Plotroom();
            room.mast(100, 100, 20, 5, 0, 0);
            room.flight(false, 100, 100, 0, 0, 6, 9);
            room.station(100, 100);
            room.squadron(0, 12, 10, 50, 1);
            room.squadron(0, 12, 10, 50, 1);
            room.pass(1);
            room.flight(true, 100, 100, 0, 0, 5, count);
            room.scramble(1, 0);
            room.scramble(0, 0);
            room.pass(1);
            Checks.is("fights", room.room(12), count > 6 ? 2 : 1);
            Checks.is("won by the first one", room.ofSquadron(0, 9), Math.min(count, 6));
            Checks.is("won by the second one", room.ofSquadron(1, 9), count > 6 ? 1 : 0);
            Checks.is("won by both", room.room(13), count);
            Checks.is("drawn", room.room(19), count > 6 ? 7 : 5);
            Checks.is("count", room.ofFlight(1, 5), 0);
        }
    }

    private static int drawnByGun(int radius, int byX, int byY, boolean isFoe) {
        Plotroom room = new Plotroom();
        room.gun(100, 100, radius);
        room.flight(isFoe, 100 + byX, 100 + byY, 0, 0, 1, 99);
        room.pass(1);
        return room.room(19);
    }

    private static void gunsWithinRadius() {
        for (boolean isFoe : new boolean[] {true, false}) {
            Checks.is("radius 1 at 0", drawnByGun(1, 0, 0, isFoe), 1);
            Checks.is("radius 1 at 1", drawnByGun(1, 0, -1, isFoe), 1);
            Checks.is("radius 1 at 1 and 1", drawnByGun(1, 1, 1, isFoe), 0);
            Checks.is("radius 1 at 2", drawnByGun(1, 2, 0, isFoe), 0);
            Checks.is("radius 20 at 20", drawnByGun(20, -20, 0, isFoe), 1);
            Checks.is("radius 20 at 21", drawnByGun(20, 0, 21, isFoe), 0);
            Checks.is("radius 20 at 12 and 16", drawnByGun(20, 12, 16, isFoe), 1);
            Checks.is("radius 20 at 12 and 17", drawnByGun(20, 12, 17, isFoe), 0);
        }
    }

    private static void gunsThatAreLent() {
        Plotroom room = new Plotroom();
        room.gun(100, 100, 10);
        room.gun(100, 100, 10);
        room.flight(true, 100, 100, 0, 0, 1, 99);
        room.pass(1);
        Checks.is("both fire at first", room.room(19), 2);
        room.lend(0, true);
        room.pass(1);
        Checks.is("one fires", room.room(19), 3);
        room.lend(1, true);
        room.pass(1);
        Checks.is("none fires", room.room(19), 3);
        room.lend(0, false);
        room.lend(1, false);
        room.pass(1);
        Checks.is("both fire again", room.room(19), 5);
    }

    /** The gun is so far from a squadron (and from the own flight there), and within 10 of a foe that is out of its reach. */
    private static int drawnBeside(int byX, int byY, int state) {
        Plotroom room = new Plotroom();
        room.mast(100, 100, 20, 5, 0, 0);
        room.flight(false, 100, 100, 0, 0, 6, 9);
        room.station(100, 100);
        room.squadron(0, 6, 10, 50, 1);
        room.squadron(0, 6, 10, 50, 15);
        room.pass(1);
        if (state > 0) {
            room.scramble(state == 1 ? 1 : 0, 0);
            room.pass(1);
        }
        if (state > 3) {
            room.back(0);
            room.pass(1);
        }
        Checks.is("state", room.ofSquadron(state == 1 ? 1 : 0, 2), state);
        room.flight(true, 100 + byX + (byX > 0 ? 9 : -9), 100 + byY, 0, 0, 5, 99);
        room.gun(100 + byX, 100 + byY, 10);
        int ahead = room.room(19);
        room.pass(1);
        Checks.is("fights", room.room(12), 0);
        return room.room(19) - ahead - 2;
    }

    private static void gunsAndSquadrons() {
        Checks.is("up at 10 by x", drawnBeside(10, 0, 2), 0);
        Checks.is("up at 11 by x", drawnBeside(11, 0, 2), 1);
        Checks.is("up at 6 and 8", drawnBeside(6, 8, 2), 0);
        Checks.is("up at 6 and 9", drawnBeside(6, 9, 2), 1);
        Checks.is("up at -10 by y", drawnBeside(0, -10, 2), 0);
        Checks.is("up at -11 by y", drawnBeside(0, -11, 2), 1);
        // Beside the gun, the own flight is fired on too.
        Checks.is("grounded beside it", drawnBeside(1, 0, 0), 2);
        Checks.is("ordered beside it", drawnBeside(1, 0, 1), 2);
        Checks.is("turning beside it", drawnBeside(1, 0, 4), 2);

        for (int gunY = 110; gunY <= 111; gunY++) {
            Plotroom home = toward(100, 100, 150, 100, 10, 50, 1);
            home.scramble(0, 0);
            home.pass(5);
            home.back(0);
            home.gun(120, gunY, 10);
            home.flight(true, 120, 115, 0, 0, 9, 99);
            int ahead = home.room(19);
            home.pass(1);
            squadron(home, 0, 3, 120, 100, 45, 6);
            Checks.is("drawn beside one on its way home", home.room(19) - ahead - 4, gunY - 110);
        }
    }

    private static void gunsDrawForEach() {
        Plotroom room = new Plotroom();
        room.gun(100, 100, 10);
        room.gun(110, 100, 10);
        room.flight(true, 95, 100, 0, 0, 1, 50);
        room.flight(true, 105, 100, 0, 0, 1, 50);
        room.flight(false, 115, 100, 0, 0, 1, 50);
        room.flight(true, 100, 100, 0, 0, 1, 50);
        room.pass(1);
        Checks.is("three by the first, three by the second", room.room(19), 6);
        int[] due = {50, 48, 50, 49};
        for (int flight = 0; flight < 4; flight++) {
            Checks.is("count of flight " + flight, room.ofFlight(flight, 5), due[flight]);
        }
        Checks.is("146 does not hit the own one", room.room(16), 0);

        Plotroom last = new Plotroom();
        last.gun(100, 100, 10);
        last.gun(100, 100, 10);
        last.flight(true, 100, 100, 0, 0, 1, 1);
        last.flight(true, 100, 100, 0, 0, 1, 50);
        last.pass(1);
        Checks.is("four drawn", last.room(19), 4);
        Checks.is("the second one", last.ofFlight(1, 5), 48);
        Checks.is("the first one", last.ofFlight(0, 5), 1);
        last.pass(1);
        Checks.is("146, 55, 52, 134", last.ofFlight(1, 5), 47);
        last.pass(1);
        Checks.is("142, 84, 143, 137", last.room(19), 12);
        last.pass(1);
        Checks.is("60 of the first one, 76 of the second, 201 of the second alone", last.room(19), 15);
        Checks.is("gone", last.ofFlight(0, 6), 0);
    }

    private static void shames() {
        for (boolean isFoe : new boolean[] {true, false}) {
            Plotroom room = new Plotroom();
            room.gun(100, 100, 10);
            room.flight(isFoe, 100, 100, 0, 0, 1, 1);
            room.pass(1);
            Checks.is("none with 11", room.room(16), 0);
            room.pass(1);
            Checks.is("with 130", room.room(16), isFoe ? 0 : 1);
            Checks.is("count", room.ofFlight(0, 5), 0);
            Checks.is("gone", room.ofFlight(0, 6), 0);
            Checks.is("nothing is won by guns", room.room(13) + room.room(14) + room.room(12), 0);
            room.pass(5);
            Checks.is("no more", room.room(19), 2);
        }
    }

    private static int livesAt(int byX, int byY, boolean isFoe) {
        Plotroom room = new Plotroom();
        room.town(100, 100, 10);
        room.flight(isFoe, 100 + byX, 100 + byY, 0, 0, 1, 7);
        room.pass(1);
        Checks.is("no work", room.room(17), 0);
        return room.room(18);
    }

    private static void livesWithinFive() {
        Checks.is("at 0", livesAt(0, 0, true), 7);
        Checks.is("at 5 by x", livesAt(5, 0, true), 7);
        Checks.is("at -5 by y", livesAt(0, -5, true), 7);
        Checks.is("at 3 and 4", livesAt(-3, 4, true), 7);
        Checks.is("at 4 and 4", livesAt(4, 4, true), 0);
        Checks.is("at 6 by x", livesAt(-6, 0, true), 0);
        Checks.is("at 6 by y", livesAt(0, 6, true), 0);
        Checks.is("an own one", livesAt(0, 0, false), 0);
        Plotroom room = new Plotroom();
        room.town(100, 100, 10);
        room.town(104, 100, 10);
        room.flight(true, 102, 100, 0, 0, 1, 99);
        room.flight(true, 96, 100, 0, 0, 1, 1);
        room.pass(1);
        Checks.is("over all towns and flights", room.room(18), 99 + 1 + 99);
        room.pass(1);
        Checks.is("each minute", room.room(18), 2 * 199);
    }

    /** A hostile track that stands, and a town so far from it. */
    private static boolean soundsAt(int byX, int byY) {
        Plotroom room = new Plotroom();
        room.mast(100, 100, 50, 0, 0, 0);
        room.flight(true, 100, 100, 0, 0, 1, 7);
        room.town(100 + byX, 100 + byY, 10);
        room.pass(3);
        boolean isSounding = room.siren(0);
        Checks.is("work", room.room(17), isSounding ? 10 : 0);
        Checks.is("wouldSound", room.wouldSound(0), isSounding ? 0 : -1);
        return isSounding;
    }

    private static void sirenWithinTen() {
        Checks.is("at 0", soundsAt(0, 0), true);
        Checks.is("at 10 by x", soundsAt(10, 0), true);
        Checks.is("at -10 by y", soundsAt(0, -10), true);
        Checks.is("at 6 and 8", soundsAt(6, -8), true);
        Checks.is("at 6 and 9", soundsAt(-6, 9), false);
        Checks.is("at 11 by x", soundsAt(-11, 0), false);
        Checks.is("at 11 by y", soundsAt(0, 11), false);
    }

    /** A hostile track that comes by 1 a minute: a town 18 ahead sounds, one 19 ahead does not; so do they behind it. */
    private static void sirenOfEightMinutes() {
        Plotroom room = new Plotroom();
        room.mast(100, 100, 50, 0, 0, 0);
        room.flight(true, 97, 100, 1, 0, 1, 7);
        room.town(118, 100, 1);
        room.town(119, 100, 2);
        room.town(90, 100, 4);
        room.town(89, 100, 8);
        room.pass(3);
        Checks.is("near in 8", room.siren(0), true);
        Checks.is("near in 9", room.siren(1), false);
        Checks.is("near now", room.siren(2), true);
        Checks.is("near no more", room.siren(3), false);
        Checks.is("work of two", room.room(17), 5);
    }

    private static void workOrLives() {
        for (int people : new int[] {1, 99}) {
            Plotroom room = new Plotroom();
            room.mast(100, 100, 50, 0, 0, 0);
            room.flight(true, 100, 100, 0, 0, 1, 7);
            room.town(100, 100, people);
            room.pass(2);
            Checks.is("lives without the siren", room.room(18), 14);
            Checks.is("no work without the siren", room.room(17), 0);
            room.pass(1);
            Checks.is("no lives with the siren", room.room(18), 14);
            Checks.is("work with the siren", room.room(17), people);
            room.wire(0, true);
            room.pass(6);
            Checks.is("work as long as the track is live", room.room(17), 7 * people);
            Checks.is("lives as long as the track is live", room.room(18), 14);
            room.pass(1);
            Checks.is("no work in the minute in which it is lost", room.room(17), 7 * people);
            Checks.is("lives in the minute in which it is lost", room.room(18), 21);
            room.plan(3, 3, 100, 100, 5);
            room.pass(1);
            Checks.is("lives go on", room.room(18), 28);
        }
        Plotroom friend = new Plotroom();
        friend.mast(100, 100, 50, 0, 0, 0);
        friend.flight(true, 100, 100, 0, 0, 1, 7);
        friend.town(100, 100, 20);
        friend.plan(0, 3, 100, 100, 5);
        friend.pass(3);
        Checks.is("no siren for a friend", friend.room(17), 0);
        Checks.is("lives by what is taken for a friend", friend.room(18), 21);
        friend.pass(1);
        Checks.is("a siren then", friend.room(17), 20);
    }

    private static void orderOfAMinute() {
        Plotroom move = new Plotroom();
        move.mast(100, 100, 10, 0, 0, 0);
        move.flight(true, 111, 100, -1, 0, 1, 7);
        move.flight(true, 90, 100, -1, 0, 1, 7);
        move.pass(1);
        Checks.is("flights move ahead of the plots", move.room(4), 1);
        Checks.is("seen where it came to", move.ofTrack(0, 0), 110);

        Plotroom turn = toward(120, 100, 100, 100, 20, 50, 1);
        turn.scramble(0, 0);
        turn.pass(1);
        turn.bend(0, -9, 0);
        turn.pass(1);
        squadron(turn, 0, 2, 111, 100, 49, 6);
        Checks.is("plots come ahead of the turns", turn.ofTrack(0, 0), 111);

        Plotroom fire = withFoe(12, 0, 0, 7);
        fire.gun(108, 100, 4);
        fire.flight(true, 109, 100, 0, 0, 5, 40);
        int left = fire.ofFlight(1, 5);
        fire.pass(1);
        Checks.is("fights are ahead of the guns", fire.ofFlight(1, 5), left - 1);
        Checks.is("none is left of it", fire.ofFlight(1, 6), 0);
        Checks.is("2 for the plot, 1 for the fight, 1 for the gun", fire.room(19), 10);
        Checks.is("142 does not hit", fire.ofFlight(2, 5), 40);

        fightsAheadOfGuns();

        Plotroom lives = new Plotroom();
        lives.town(100, 100, 10);
        lives.gun(100, 100, 5);
        lives.flight(true, 100, 100, 0, 0, 1, 1);
        lives.pass(1);
        Checks.is("lives of the first minute", lives.room(18), 1);
        lives.pass(1);
        Checks.is("guns are ahead of the towns", lives.room(18), 1);
    }

    /** The fight has 146 and 55 (4 won, 46 / 40 lost); the gun, which the squadron is not near, has 52. */
    private static void fightsAheadOfGuns() {
        Plotroom room = new Plotroom();
        room.mast(100, 100, 20, 5, 0, 0);
        room.flight(false, 100, 100, 0, 0, 6, 9);
        room.flight(true, 105, 100, 0, 0, 5, 50);
        room.station(100, 100);
        room.squadron(0, 8, 10, 50, 1);
        room.gun(110, 100, 5);
        room.lend(0, true);
        room.pass(1);
        room.lend(0, false);
        room.scramble(0, 0);
        room.pass(1);
        Checks.is("4 for the plots, 2 for the fight, 1 for the gun", room.room(19), 7);
        Checks.is("won with 146", room.room(13), 4);
        Checks.is("52 does not hit", room.ofFlight(1, 5), 46);
        Checks.is("machines with 55", room.ofSquadron(0, 1), 7);
    }

    private FightEdgesTest() {
    }
}
