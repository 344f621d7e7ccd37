/** Promises 10 to 18 at their edges: the last value that is taken, the first that is not, the empty and the full. */
public final class OrdersEdgesTest {
    public static void main(String[] args) {
        flightArguments();
        flightsFull();
        bendArguments();
        bendOfOneThatIsGone();
        bendAnswers();
        planArguments();
        plansFull();
        scrambleNumbers();
        scrambleOnlyGrounded();
        scrambleMachines();
        scrambleLiveTracks();
        controllerTalksToThree();
        scrambleAtTheLastMinute();
        leadNumbers();
        leadOnlyOrderedOrUp();
        leadLiveTracks();
        leadAnswers();
        leadKeepsAllElse();
        backNumbers();
        backOnlyOrderedOrUp();
        reinforceArguments();
        reinforceOnlyGrounded();
        reinforceTwelveAtMost();
        passArgument();
        passToTheLastMinute();
        callCounts();
        Checks.end();
    }

    private static int[] with(int[] usual, int index, int value) {
        int[] changed = usual.clone();
        changed[index] = value;
        return changed;
    }

    private static int flight(Plotroom room, int[] a) {
        return room.flight(true, a[0], a[1], a[2], a[3], a[4], a[5]);
    }

    private static void flightArguments() {
        int[] usual = {100, 101, 2, -3, 4, 55};
        int[][] allowed = {{0, 199}, {0, 199}, {-9, 9}, {-9, 9}, {1, 9}, {1, 99}};
        for (int i = 0; i < usual.length; i++) {
            int index = i;
            Checks.edges(Rooms::lively, "flight, argument " + i, Checks.ARGUMENT, allowed[i][0], allowed[i][1], (room, value) -> {
                Checks.is("number of the flight", flight(room, with(usual, index, value)), 3);
                for (int what = 0; what < 6; what++) {
                    Checks.is("ofFlight(3, " + what + ")", room.ofFlight(3, what), what == index ? value : usual[what]);
                }
                Checks.is("up", room.ofFlight(3, 6), 1);
                Checks.is("a foe", room.ofFlight(3, 7), 1);
            });
        }
        Plotroom room = new Plotroom();
        Checks.is("an own one", room.flight(false, 0, 0, 0, 0, 1, 1), 0);
        Checks.is("no foe", room.ofFlight(0, 7), 0);
    }

    private static void flightsFull() {
        Plotroom room = new Plotroom();
        for (int i = 0; i < 12; i++) {
            Checks.is("flight " + i + " of 12", room.flight(false, 0, 0, -1, 0, 1, 1), i);
        }
        room.pass(1);
        Checks.is("all are gone", room.room(1), 0);
        Checks.refuses(room, "those that are gone count", Checks.STATE, () -> room.flight(false, 0, 0, 0, 0, 1, 1));
        Checks.refusesForGood(Rooms::full, "a thirteenth flight", Checks.STATE, full -> full.flight(true, 1, 1, 1, 1, 1, 1));
        int[][] wrong = {{-1, 1, 1, 1, 1, 1}, {1, 200, 1, 1, 1, 1}, {1, 1, 10, 1, 1, 1}, {1, 1, 1, -10, 1, 1}, {1, 1, 1, 1, 10, 1}, {1, 1, 1, 1, 1, 0}};
        for (int[] w : wrong) {
            Checks.refusesForGood(Rooms::full, "a thirteenth flight, wrong", Checks.ARGUMENT, full -> flight(full, w));
        }
    }

    private static void bendArguments() {
        Checks.edges(Rooms::lively, "bend, one of 3", Checks.INDEX, 0, 2, (room, flight) -> room.bend(flight, 0, 0));
        Checks.edges(Rooms::full, "bend, one of 12", Checks.INDEX, 0, 11, (room, flight) -> room.bend(flight, 0, 0));
        Checks.refusesForGood(Plotroom::new, "bend, one of none", Checks.INDEX, room -> room.bend(0, 0, 0));
        Checks.edges(Rooms::lively, "bend, by x", Checks.ARGUMENT, -9, 9, (room, eastward) -> {
            room.bend(0, eastward, 3);
            Checks.is("course by x", room.ofFlight(0, 2), eastward);
            Checks.is("course by y", room.ofFlight(0, 3), 3);
        });
        Checks.edges(Rooms::lively, "bend, by y", Checks.ARGUMENT, -9, 9, (room, southward) -> {
            room.bend(0, 3, southward);
            Checks.is("course by x", room.ofFlight(0, 2), 3);
            Checks.is("course by y", room.ofFlight(0, 3), southward);
        });
        Checks.refusesForGood(Rooms::lively, "bend, no flight and wrong by x", Checks.INDEX, room -> room.bend(3, 10, 0));
        Checks.refusesForGood(Rooms::lively, "bend, no flight and wrong by y", Checks.INDEX, room -> room.bend(-1, 0, -10));
    }

    private static Plotroom withOneGone() {
        Plotroom room = Rooms.lively();
        room.flight(true, 199, 50, 1, 0, 5, 5);
        room.pass(1);
        return room;
    }

    private static void bendOfOneThatIsGone() {
        Checks.is("gone", withOneGone().ofFlight(3, 6), 0);
        Checks.refusesForGood(OrdersEdgesTest::withOneGone, "bend of one that is gone", Checks.STATE, room -> room.bend(3, 0, 0));
        Checks.refusesForGood(OrdersEdgesTest::withOneGone, "that by wrong x", Checks.ARGUMENT, room -> room.bend(3, 10, 0));
        Checks.refusesForGood(OrdersEdgesTest::withOneGone, "that by wrong y", Checks.ARGUMENT, room -> room.bend(3, 0, -10));
        Plotroom shot = new Plotroom();
        shot.flight(true, 50, 50, 0, 0, 5, 1);
        shot.gun(50, 50, 5);
        shot.pass(2);
        Checks.is("shot down", shot.ofFlight(0, 6), 0);
        Checks.refuses(shot, "bend of one that was shot down", Checks.STATE, () -> shot.bend(0, 0, 0));
    }

    private static int bendFrom(int x, int y, int eastward, int southward) {
        Plotroom room = new Plotroom();
        room.flight(true, x, y, 5, 5, 5, 5);
        int answer = room.bend(0, eastward, southward);
        int moves = 0;
        for (int i = 0; i < 100; i++) {
            room.pass(1);
            moves += room.ofFlight(0, 6);
        }
        Checks.is("moves from " + x + ", " + y + " by " + eastward + ", " + southward, Math.min(99, moves), answer);
        return answer;
    }

    private static void bendAnswers() {
        Checks.is("99 with a course of 0 and 0", bendFrom(0, 199, 0, 0), 99);
        Checks.is("eastward, none is left", bendFrom(199, 100, 1, 0), 0);
        Checks.is("eastward, one is left", bendFrom(198, 100, 1, 0), 1);
        Checks.is("westward, none is left", bendFrom(0, 100, -1, 0), 0);
        Checks.is("westward, one is left", bendFrom(1, 100, -1, 0), 1);
        Checks.is("southward, none is left", bendFrom(100, 199, 0, 1), 0);
        Checks.is("southward, one is left", bendFrom(100, 198, 0, 1), 1);
        Checks.is("northward, none is left", bendFrom(100, 0, 0, -1), 0);
        Checks.is("northward, one is left", bendFrom(100, 1, 0, -1), 1);
        Checks.is("the edge itself by 9", bendFrom(181, 100, 9, 0), 2);
        Checks.is("beyond the edge by 9", bendFrom(182, 100, 9, 0), 1);
        Checks.is("the edge itself by -9", bendFrom(100, 18, 0, -9), 2);
        Checks.is("beyond the edge by -9", bendFrom(100, 17, 0, -9), 1);
        Checks.is("x is over first", bendFrom(190, 50, 3, 3), 3);
        Checks.is("y is over first", bendFrom(50, 190, 3, 3), 3);
        Checks.is("98 by x", bendFrom(101, 100, 1, 0), 98);
        Checks.is("99 by x", bendFrom(100, 100, 1, 0), 99);
        Checks.is("100 by x are 99", bendFrom(99, 100, 1, 0), 99);
        Checks.is("199 by x are 99", bendFrom(199, 100, -1, 0), 99);
        Checks.is("98 by y", bendFrom(100, 98, 0, -1), 98);
        Checks.is("99 by y", bendFrom(100, 99, 0, -1), 99);
        Checks.is("100 by y are 99", bendFrom(100, 100, 0, -1), 99);
        Plotroom late = new Plotroom();
        late.flight(true, 100, 100, 0, 0, 5, 5);
        for (int i = 0; i < 20; i++) {
            late.pass(50);
        }
        Checks.is("as if the day went on", late.bend(0, 2, 0), 49);
    }

    private static int plan(Plotroom room, int[] a) {
        return room.plan(a[0], a[1], a[2], a[3], a[4]);
    }

    private static void planArguments() {
        int[] usual = {0, 1000, 100, 101, 30};
        int[][] allowed = {{0, 1000}, {0, 1000}, {0, 199}, {0, 199}, {1, 60}};
        for (int i = 0; i < usual.length; i++) {
            int index = i;
            Checks.edges(Rooms::lively, "plan, argument " + i, Checks.ARGUMENT, allowed[i][0], allowed[i][1],
                    (room, value) -> Checks.is("plans then", plan(room, with(usual, index, value)), 2));
        }
        Checks.edges(Rooms::lively, "plan from 500", Checks.ARGUMENT, 500, 1000, (room, to) -> Checks.is("plans then", room.plan(500, to, 1, 1, 1), 2));
        Checks.edges(Rooms::lively, "plan to 500", Checks.ARGUMENT, 0, 500, (room, from) -> Checks.is("plans then", room.plan(from, 500, 1, 1, 1), 2));
    }

    private static void plansFull() {
        Plotroom room = new Plotroom();
        for (int i = 1; i <= 10; i++) {
            Checks.is("plans of 10", room.plan(0, 0, 0, 0, 1), i);
        }
        Checks.refusesForGood(Rooms::full, "an eleventh plan", Checks.STATE, full -> full.plan(1, 2, 1, 1, 1));
        int[][] wrong = {{-1, 2, 1, 1, 1}, {1, 1001, 1, 1, 1}, {3, 2, 1, 1, 1}, {1, 2, 200, 1, 1}, {1, 2, 1, -1, 1}, {1, 2, 1, 1, 61}};
        for (int[] w : wrong) {
            Checks.refusesForGood(Rooms::full, "an eleventh plan, wrong", Checks.ARGUMENT, full -> plan(full, w));
        }
    }

    private static void scrambleNumbers() {
        Checks.refusesForGood(Plotroom::new, "scramble of none", Checks.INDEX, room -> room.scramble(0, 0));
        for (int squadron : new int[] {-1, 8, Integer.MIN_VALUE, Integer.MAX_VALUE}) {
            Checks.refusesForGood(Rooms::full, "scramble of " + squadron + " of 8", Checks.INDEX, room -> room.scramble(squadron, 0));
        }
        for (int track : new int[] {-1, 16, Integer.MIN_VALUE, Integer.MAX_VALUE}) {
            Checks.refusesForGood(Rooms::full, "scramble to " + track + " of 16", Checks.INDEX, room -> room.scramble(1, track));
            Checks.refusesForGood(Rooms::full, "scramble of one that is ordered to " + track + " of 16", Checks.INDEX, room -> room.scramble(0, track));
        }
        Plotroom room = Rooms.full();
        Checks.is("the last squadron to the last track", room.scramble(7, 15), room.room(0) + 8);
        Plotroom other = Rooms.full();
        Checks.is("another one to the first track", other.scramble(1, 0), other.room(0) + 2);
        Plotroom own = new Plotroom();
        own.station(50, 50);
        own.squadron(0, 1, 5, 10, 1);
        Checks.refuses(own, "scramble without tracks", Checks.INDEX, () -> own.scramble(0, 0));
    }

    /** A room with a live track, in which squadron 0 has the state, and the controller talks to no other one. */
    private static Plotroom inState(int state) {
        Plotroom room = new Plotroom();
        room.mast(100, 100, 150, 0, 0, 0);
        room.flight(false, 100, 100, 0, 0, 5, 20);
        room.station(120, 100);
        room.squadron(0, 6, 10, 50, 1);
        room.pass(1);
        if (state > 0) {
            room.scramble(0, 0);
        }
        if (state > 1) {
            room.pass(2);
        }
        if (state > 2) {
            room.back(0);
        }
        if (state > 3) {
            room.pass(1);
        }
        Checks.is("state", room.ofSquadron(0, 2), state);
        return room;
    }

    private static void scrambleOnlyGrounded() {
        for (int i = 1; i <= 4; i++) {
            int state = i;
            Checks.refusesForGood(() -> inState(state), "scramble in state " + i, Checks.STATE, room -> room.scramble(0, 0));
        }
        Checks.is("scramble of one that is grounded", inState(0).scramble(0, 0), 2);
        Plotroom room = inState(4);
        room.pass(11);
        Checks.refuses(room, "scramble ahead of the end of its turn", Checks.STATE, () -> room.scramble(0, 0));
        room.pass(1);
        Checks.is("scramble after its turn", room.scramble(0, 0), room.room(0) + 1);
    }

    /** A room in which squadron 0 has lost its last machine in a fight, with the track live. */
    private static Plotroom withoutMachines() {
        Plotroom room = new Plotroom();
        room.mast(100, 100, 50, 0, 0, 0);
        room.flight(true, 100, 100, 0, 0, 5, 99);
        room.station(100, 100);
        room.squadron(0, 1, 10, 50, 1);
        room.pass(1);
        room.scramble(0, 0);
        room.pass(1);
        Checks.is("no machines", room.ofSquadron(0, 1), 0);
        Checks.is("grounded", room.ofSquadron(0, 2), 0);
        return room;
    }

    private static void scrambleMachines() {
        Checks.refusesForGood(OrdersEdgesTest::withoutMachines, "scramble without machines", Checks.STATE, room -> room.scramble(0, 0));
        Plotroom room = withoutMachines();
        Checks.is("one machine", room.reinforce(0, 1), 1);
        Checks.is("scramble of one machine", room.scramble(0, 0), 3);
    }

    /** A room whose track 0 was seen last in minute 1, in a later minute. */
    private static Plotroom withOldTrack(int minute) {
        Plotroom room = new Plotroom();
        room.mast(100, 100, 150, 0, 0, 0);
        room.flight(false, 100, 100, 0, 0, 5, 20);
        room.station(120, 100);
        room.squadron(0, 6, 10, 50, 1);
        room.squadron(0, 6, 10, 50, 1);
        room.pass(1);
        room.flight(false, 20, 20, 0, 0, 5, 20);
        room.bend(0, 9, 0);
        room.gate(1);
        room.pass(minute - 1);
        return room;
    }

    private static void scrambleLiveTracks() {
        Checks.is("scramble to a track that is 6 old", withOldTrack(7).scramble(0, 0), 8);
        Checks.refusesForGood(() -> withOldTrack(8), "scramble to a track that is 7 old", Checks.STATE, room -> room.scramble(0, 0));
        Checks.refusesForGood(() -> withOldTrack(60), "scramble to a track that is long lost", Checks.STATE, room -> room.scramble(0, 0));
    }

    private static void controllerTalksToThree() {
        Plotroom room = Rooms.full();
        Checks.is("talks to two", room.room(11), 2);
        Checks.is("a third one", room.scramble(3, 0), room.room(0) + 4);
        Checks.is("talks to three", room.room(11), 3);
        Checks.refuses(room, "a fourth one as they are ordered", Checks.STATE, () -> room.scramble(4, 0));
        Checks.is("back of one that is ordered", room.back(3), 0);
        Checks.is("a third one again", room.scramble(4, 0), room.room(0) + 5);
        room.pass(1);
        Checks.is("one is up", room.ofSquadron(0, 2), 2);
        Checks.is("talks to three still", room.room(11), 3);
        Checks.refuses(room, "a fourth one as one is up", Checks.STATE, () -> room.scramble(3, 0));
        Checks.is("back of one that is up", room.back(0), 3);
        Checks.is("a third one beside one on its way home", room.scramble(3, 0), room.room(0) + 4);
        Checks.refuses(room, "a fourth one beside one on its way home", Checks.STATE, () -> room.scramble(1, 0));
        room.pass(1);
        Checks.is("the one from home is turning", room.ofSquadron(0, 2), 4);
        Checks.refuses(room, "a fourth one beside one that is turning", Checks.STATE, () -> room.scramble(1, 0));
        Checks.is("back once more", room.back(4), 0);
        Checks.is("a third one beside one that is turning", room.scramble(1, 0), room.room(0) + 2);
    }

    private static void scrambleAtTheLastMinute() {
        Plotroom room = new Plotroom();
        room.mast(100, 100, 150, 0, 0, 0);
        room.flight(false, 100, 100, 0, 0, 5, 20);
        room.station(120, 100);
        room.squadron(0, 6, 10, 50, 15);
        room.squadron(0, 6, 10, 50, 1);
        for (int i = 0; i < 20; i++) {
            room.pass(50);
        }
        Checks.is("up at 1015", room.scramble(0, 0), 1015);
        Checks.is("due at 1015", room.ofSquadron(0, 7), 1015);
        Checks.is("up at 1001", room.scramble(1, 0), 1001);
    }

    private static void leadNumbers() {
        Checks.refusesForGood(Plotroom::new, "lead of none", Checks.INDEX, room -> room.lead(0, 0));
        for (int squadron : new int[] {-1, 8, Integer.MIN_VALUE, Integer.MAX_VALUE}) {
            Checks.refusesForGood(Rooms::full, "lead of " + squadron + " of 8", Checks.INDEX, room -> room.lead(squadron, 0));
        }
        for (int track : new int[] {-1, 16, Integer.MIN_VALUE, Integer.MAX_VALUE}) {
            Checks.refusesForGood(Rooms::full, "lead to " + track + " of 16", Checks.INDEX, room -> room.lead(0, track));
            Checks.refusesForGood(Rooms::full, "lead of one that is grounded to " + track + " of 16", Checks.INDEX, room -> room.lead(1, track));
        }
        Plotroom room = Rooms.full();
        Checks.is("to the first track", room.lead(0, 0), 15);
        Checks.is("to the last track", room.lead(0, 15), 0);
        room.scramble(7, 4);
        Checks.is("the last squadron", room.lead(7, 5), 4);
        Checks.is("with three talked to", room.room(11), 3);
    }

    private static void leadOnlyOrderedOrUp() {
        for (int i : new int[] {0, 3, 4}) {
            Checks.refusesForGood(() -> inState(i), "lead in state " + i, Checks.STATE, room -> room.lead(0, 0));
        }
        for (int i = 1; i <= 2; i++) {
            Plotroom room = inState(i);
            Checks.is("lead in state " + i, room.lead(0, 0), 0);
            Checks.is("its state stays", room.ofSquadron(0, 2), i);
        }
    }

    private static Plotroom withLostTrack(int minute) {
        Plotroom room = withOldTrack(5);
        room.scramble(0, 1);
        room.scramble(1, 1);
        room.pass(minute - 5);
        return room;
    }

    private static void leadLiveTracks() {
        Checks.is("lead to a track that is 6 old", withLostTrack(7).lead(0, 0), 1);
        Checks.refusesForGood(() -> withLostTrack(8), "lead to a track that is 7 old", Checks.STATE, room -> room.lead(0, 0));
        Plotroom room = withLostTrack(7);
        Checks.is("the first one", room.lead(0, 0), 1);
        room.pass(1);
        Checks.is("its track was lost", room.ofTrack(0, 7), 0);
        Checks.is("away from a track that is lost", room.lead(0, 1), 0);
        room.pass(1);
        Checks.is("so it stays up", room.ofSquadron(0, 2), 2);
    }

    private static void leadAnswers() {
        Plotroom room = withLostTrack(7);
        Checks.is("the track ahead", room.lead(0, 0), 1);
        Checks.is("the same track again", room.lead(0, 0), 0);
        Checks.is("of one", room.ofSquadron(0, 6), 0);
        Checks.is("of the other one", room.ofSquadron(1, 6), 1);
        Checks.is("one for each", room.ofTrack(0, 10), 1);
    }

    /** Led in the last minute ahead of that in which it is due, it comes up as it would have. */
    private static void leadKeepsAllElse() {
        Plotroom room = new Plotroom();
        room.mast(100, 100, 150, 0, 0, 0);
        room.flight(false, 100, 100, 0, 0, 5, 20);
        room.flight(false, 120, 140, 0, 0, 5, 20);
        room.station(120, 100);
        room.squadron(0, 6, 10, 50, 3);
        room.pass(1);
        Checks.is("up at", room.scramble(0, 0), 4);
        room.pass(2);
        Checks.is("lead", room.lead(0, 1), 0);
        Checks.is("ordered still", room.ofSquadron(0, 2), 1);
        Checks.is("due as it was", room.ofSquadron(0, 7), 4);
        room.pass(1);
        Checks.is("up", room.ofSquadron(0, 2), 2);
        room.pass(2);
        Checks.is("y on its way to the other one", room.ofSquadron(0, 4), 120);
        Checks.is("lead one that is up", room.lead(0, 0), 1);
        Checks.is("not due", room.ofSquadron(0, 7), -1);
        Checks.is("x where it was", room.ofSquadron(0, 3), 120);
        Checks.is("y where it was", room.ofSquadron(0, 4), 120);
        Checks.is("with the fuel it had", room.ofSquadron(0, 5), 48);
        Checks.is("talks to one", room.room(11), 1);
    }

    private static void backNumbers() {
        Checks.refusesForGood(Plotroom::new, "back of none", Checks.INDEX, room -> room.back(0));
        for (int squadron : new int[] {-1, 8, Integer.MIN_VALUE, Integer.MAX_VALUE}) {
            Checks.refusesForGood(Rooms::full, "back of " + squadron + " of 8", Checks.INDEX, room -> room.back(squadron));
        }
        Plotroom room = Rooms.full();
        Checks.is("the first one", room.back(0), 0);
        room.scramble(7, 0);
        Checks.is("the last one", room.back(7), 0);
    }

    private static void backOnlyOrderedOrUp() {
        for (int i : new int[] {0, 3, 4}) {
            Checks.refusesForGood(() -> inState(i), "back in state " + i, Checks.STATE, room -> room.back(0));
        }
        Plotroom ordered = inState(1);
        Checks.is("back of one that is ordered", ordered.back(0), 0);
        Checks.is("its state", ordered.ofSquadron(0, 2), 0);
        Checks.is("due no more", ordered.ofSquadron(0, 7), -1);
        Checks.is("no track", ordered.ofSquadron(0, 6), -1);
        ordered.pass(3);
        Checks.is("it does not come up", ordered.ofSquadron(0, 2), 0);
        Plotroom up = inState(2);
        Checks.is("back of one that is up", up.back(0), 3);
        Checks.is("its state", up.ofSquadron(0, 2), 3);
        Checks.is("where it was", up.ofSquadron(0, 3), 110);
        Checks.is("with the fuel it had", up.ofSquadron(0, 5), 49);
    }

    private static void reinforceArguments() {
        Checks.edges(Rooms::full, "reinforce one that is grounded", Checks.ARGUMENT, 1, 12,
                (room, machines) -> Checks.is("machines then", room.reinforce(7, machines), Math.min(12, 5 + machines)));
        Checks.refusesForGood(Plotroom::new, "reinforce none", Checks.INDEX, room -> room.reinforce(0, 1));
        for (int squadron : new int[] {-1, 8, Integer.MIN_VALUE, Integer.MAX_VALUE}) {
            for (int machines : new int[] {1, 0, 13}) {
                Checks.refusesForGood(Rooms::full, "reinforce " + squadron + " of 8", Checks.INDEX, room -> room.reinforce(squadron, machines));
            }
        }
    }

    private static void reinforceOnlyGrounded() {
        for (int i = 1; i <= 4; i++) {
            int state = i;
            Checks.refusesForGood(() -> inState(state), "reinforce in state " + i, Checks.STATE, room -> room.reinforce(0, 1));
            Checks.refusesForGood(() -> inState(state), "reinforce by 0 in state " + i, Checks.ARGUMENT, room -> room.reinforce(0, 0));
            Checks.refusesForGood(() -> inState(state), "reinforce by 13 in state " + i, Checks.ARGUMENT, room -> room.reinforce(0, 13));
        }
        Checks.is("reinforce one that is grounded", inState(0).reinforce(0, 1), 7);
    }

    private static void reinforceTwelveAtMost() {
        int[][] due = {{1, 1, 2}, {1, 10, 11}, {1, 11, 12}, {1, 12, 12}, {11, 1, 12}, {12, 1, 12}, {12, 12, 12}};
        for (int[] d : due) {
            Plotroom room = new Plotroom();
            room.station(1, 1);
            room.squadron(0, d[0], 5, 10, 1);
            Checks.is("reinforce " + d[0] + " by " + d[1], room.reinforce(0, d[1]), d[2]);
            Checks.is("its machines", room.ofSquadron(0, 1), d[2]);
            Checks.is("none are lost by that", room.room(15), 0);
        }
        Checks.is("12 for one without machines", withoutMachines().reinforce(0, 12), 12);
    }

    private static void passArgument() {
        Checks.edges(Rooms::lively, "pass", Checks.ARGUMENT, 1, 60, (room, minutes) -> Checks.is("minute", room.pass(minutes), 6 + minutes));
        Checks.edges(Plotroom::new, "pass in an empty room", Checks.ARGUMENT, 1, 60, (room, minutes) -> Checks.is("minute", room.pass(minutes), minutes));
    }

    private static Plotroom atMinute(int minute) {
        Plotroom room = new Plotroom();
        room.mast(100, 100, 50, 0, 3, 4);
        room.flight(true, 100, 100, 0, 0, 5, 9);
        while (room.room(0) < minute) {
            room.pass(Math.min(60, minute - room.room(0)));
        }
        return room;
    }

    private static void passToTheLastMinute() {
        Checks.is("60 to 1000", atMinute(940).pass(60), 1000);
        Checks.is("1 to 1000", atMinute(999).pass(1), 1000);
        Checks.refusesForGood(() -> atMinute(941), "60 to 1001", Checks.STATE, room -> room.pass(60));
        Checks.refusesForGood(() -> atMinute(999), "2 to 1001", Checks.STATE, room -> room.pass(2));
        Checks.refusesForGood(() -> atMinute(1000), "1 to 1001", Checks.STATE, room -> room.pass(1));
        Checks.refusesForGood(() -> atMinute(1000), "60 to 1060", Checks.STATE, room -> room.pass(60));
        Checks.refusesForGood(() -> atMinute(1000), "0 at 1000", Checks.ARGUMENT, room -> room.pass(0));
        Checks.refusesForGood(() -> atMinute(1000), "61 at 1000", Checks.ARGUMENT, room -> room.pass(61));
        Checks.is("59 to 1000", atMinute(941).pass(59), 1000);
    }

    private static void callCounts() {
        Plotroom room = new Plotroom();
        for (int i = 1; i <= 200; i++) {
            Checks.is("call " + i, room.call(), i);
        }
        Checks.is("refused", room.room(20), 200);
        Checks.is("and nothing else", room.room(0) + room.room(19), 0);
        Plotroom last = atMinute(1000);
        Checks.is("call at 1000", last.call(), 1);
        Plotroom used = new Plotroom();
        for (int i = 1; i <= 512; i++) {
            Checks.is("each of 512 calls is answered", used.call(), i);
        }
    }

    private OrdersEdgesTest() {
    }
}
