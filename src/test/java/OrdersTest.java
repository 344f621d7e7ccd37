/** Promises 10 to 18: what comes, and orders. */
public final class OrdersTest {
    public static void main(String[] args) {
        flight();
        bend();
        plan();
        scramble();
        controller();
        lead();
        back();
        reinforce();
        pass();
        call();
        Checks.end();
    }

    private static void flight() {
        Plotroom room = new Plotroom();
        int[][] wrong = {
            {-1, 0, 0, 0, 1, 1}, {200, 0, 0, 0, 1, 1}, {0, -1, 0, 0, 1, 1}, {0, 200, 0, 0, 1, 1},
            {0, 0, -10, 0, 1, 1}, {0, 0, 10, 0, 1, 1}, {0, 0, 0, -10, 1, 1}, {0, 0, 0, 10, 1, 1},
            {0, 0, 0, 0, 0, 1}, {0, 0, 0, 0, 10, 1}, {0, 0, 0, 0, 1, 0}, {0, 0, 0, 0, 1, 100},
        };
        for (int[] w : wrong) {
            Checks.refuses(room, "wrong flight", Checks.ARGUMENT,
                    () -> room.flight(true, w[0], w[1], w[2], w[3], w[4], w[5]));
        }
        Checks.is("first flight", room.flight(true, 0, 199, -9, 9, 9, 99), 0);
        Checks.is("second flight", room.flight(false, 199, 0, 9, -9, 1, 1), 1);
        Checks.is("it is up at once", room.ofFlight(1, 6), 1);
        for (int i = 2; i < 12; i++) {
            Checks.is("more flights", room.flight(true, 5, 5, 1, 1, 5, 5), i);
        }
        Checks.refuses(room, "thirteenth flight", Checks.STATE, () -> room.flight(true, 5, 5, 1, 1, 5, 5));
        Checks.refuses(room, "thirteenth flight, wrong", Checks.ARGUMENT, () -> room.flight(true, 5, 5, 1, 1, 5, 0));
        room.pass(1);
        Checks.is("the first one has left", room.ofFlight(0, 6), 0);
        Checks.refuses(room, "one that is gone counts still", Checks.STATE, () -> room.flight(true, 5, 5, 1, 1, 5, 5));
    }

    private static void bend() {
        Plotroom room = new Plotroom();
        Checks.refuses(room, "bend without flights", Checks.INDEX, () -> room.bend(0, 10, 0));
        room.flight(true, 100, 50, 3, 0, 5, 5);
        Checks.is("bend still", room.bend(0, 0, 0), 99);
        Checks.is("99 moves at most", room.bend(0, 1, 0), 99);
        Checks.is("its course", room.ofFlight(0, 2), 1);
        Checks.is("99 / 9", room.bend(0, 9, 0), 11);
        Checks.is("99 / 2", room.bend(0, 2, 0), 49);
        Checks.is("100 / 9", room.bend(0, -9, 0), 11);
        Checks.is("50 / 7 ahead of 100 / 9", room.bend(0, -9, -7), 7);
        Checks.is("its course by x", room.ofFlight(0, 2), -9);
        Checks.is("its course by y", room.ofFlight(0, 3), -7);
        Checks.refuses(room, "bend(1)", Checks.INDEX, () -> room.bend(1, 0, 0));
        Checks.refuses(room, "bend(-1)", Checks.INDEX, () -> room.bend(-1, 0, 0));
        int[][] wrong = {{-10, 0}, {10, 0}, {0, -10}, {0, 10}};
        for (int[] w : wrong) {
            Checks.refuses(room, "wrong bend", Checks.ARGUMENT, () -> room.bend(0, w[0], w[1]));
        }
        room.pass(7);
        Checks.is("7 moves by x", room.ofFlight(0, 0), 100 - 63);
        Checks.is("7 moves by y", room.ofFlight(0, 1), 50 - 49);
        Checks.is("up still", room.ofFlight(0, 6), 1);
        Checks.is("none more", room.bend(0, -9, -7), 0);
        room.pass(1);
        Checks.is("gone", room.ofFlight(0, 6), 0);
        Checks.is("gone where it was last", room.ofFlight(0, 0), 37);
        Checks.refuses(room, "bend of one that is gone", Checks.STATE, () -> room.bend(0, 0, 0));
        Checks.refuses(room, "wrong bend of one that is gone", Checks.ARGUMENT, () -> room.bend(0, 10, 0));
    }

    private static void plan() {
        Plotroom room = new Plotroom();
        int[][] wrong = {
            {-1, 5, 0, 0, 1}, {1001, 1001, 0, 0, 1}, {0, 1001, 0, 0, 1}, {6, 5, 0, 0, 1}, {0, -1, 0, 0, 1},
            {0, 5, -1, 0, 1}, {0, 5, 200, 0, 1}, {0, 5, 0, -1, 1}, {0, 5, 0, 200, 1}, {0, 5, 0, 0, 0}, {0, 5, 0, 0, 61},
        };
        for (int[] w : wrong) {
            Checks.refuses(room, "wrong plan", Checks.ARGUMENT, () -> room.plan(w[0], w[1], w[2], w[3], w[4]));
        }
        Checks.is("first plan", room.plan(0, 1000, 0, 199, 60), 1);
        Checks.is("second plan", room.plan(5, 5, 199, 0, 1), 2);
        for (int i = 3; i <= 10; i++) {
            Checks.is("more plans", room.plan(1000, 1000, 1, 1, 1), i);
        }
        Checks.refuses(room, "eleventh plan", Checks.STATE, () -> room.plan(0, 1, 1, 1, 1));
        Checks.refuses(room, "eleventh plan, wrong", Checks.ARGUMENT, () -> room.plan(0, 1, 1, 1, 0));
    }

    /** A room with a flight that stands at 100, 100, its track, a station there and squadrons that are ready in 3. */
    private static Plotroom withTrack(boolean isFoe, int squadrons) {
        Plotroom room = new Plotroom();
        room.mast(100, 100, 150, 0, 0, 0);
        room.flight(isFoe, 100, 100, 0, 0, 5, 20);
        room.station(150, 100);
        for (int i = 0; i < squadrons; i++) {
            room.squadron(0, 12, 10, 50, 3);
        }
        room.pass(1);
        return room;
    }

    private static void scramble() {
        Plotroom room = withTrack(false, 1);
        Checks.refuses(room, "scramble(-1, 0)", Checks.INDEX, () -> room.scramble(-1, 0));
        Checks.refuses(room, "scramble(1, 0)", Checks.INDEX, () -> room.scramble(1, 0));
        Checks.refuses(room, "scramble(0, -1)", Checks.INDEX, () -> room.scramble(0, -1));
        Checks.refuses(room, "scramble(0, 1)", Checks.INDEX, () -> room.scramble(0, 1));
        Checks.is("scramble", room.scramble(0, 0), 4);
        Checks.is("ordered", room.ofSquadron(0, 2), 1);
        Checks.is("its track", room.ofSquadron(0, 6), 0);
        Checks.is("due", room.ofSquadron(0, 7), 4);
        Checks.is("sent to the track", room.ofTrack(0, 10), 1);
        Checks.refuses(room, "scramble of one that is ordered", Checks.STATE, () -> room.scramble(0, 0));
        room.pass(2);
        Checks.is("ordered still", room.ofSquadron(0, 2), 1);
        room.pass(1);
        Checks.is("up", room.ofSquadron(0, 2), 2);
        Checks.is("up at its station", room.ofSquadron(0, 3), 150);
        Checks.is("fuel is whole", room.ofSquadron(0, 5), 50);
        Checks.is("due no more", room.ofSquadron(0, 7), -1);
        room.pass(1);
        Checks.is("on its way", room.ofSquadron(0, 3), 140);
        Checks.is("fuel for it", room.ofSquadron(0, 5), 49);
        Checks.is("back", room.ofSquadron(0, 8), 4);

        Plotroom lost = withTrack(false, 1);
        lost.wire(0, true);
        lost.pass(6);
        Checks.is("live after 6", lost.ofTrack(0, 7), 1);
        lost.pass(1);
        Checks.is("lost after 7", lost.ofTrack(0, 7), 0);
        Checks.refuses(lost, "scramble to a lost track", Checks.STATE, () -> lost.scramble(0, 0));
    }

    private static void controller() {
        Plotroom room = withTrack(false, 5);
        for (int i = 0; i < 3; i++) {
            Checks.is("scramble", room.scramble(i, 0), 4);
        }
        Checks.is("talks", room.room(11), 3);
        Checks.is("sound with 3", room.isSound(), true);
        Checks.refuses(room, "a fourth talk", Checks.STATE, () -> room.scramble(3, 0));
        room.pass(4);
        Checks.is("talks to those that are up", room.room(11), 3);
        Checks.is("in the air", room.room(10), 3);
        Checks.refuses(room, "a fourth talk in the air", Checks.STATE, () -> room.scramble(3, 0));
        Checks.is("call one back", room.back(1), 3);
        Checks.is("talks without it", room.room(11), 2);
        Checks.is("in the air with it", room.room(10), 3);
        Checks.is("a third talk", room.scramble(3, 0), 8);
        Checks.is("sent to the track", room.ofTrack(0, 10), 3);
    }

    private static void lead() {
        Plotroom room = withTrack(false, 2);
        room.flight(false, 100, 150, 0, 0, 5, 5);
        room.pass(1);
        Checks.refuses(room, "lead of one that is grounded", Checks.STATE, () -> room.lead(0, 1));
        room.scramble(0, 0);
        Checks.is("lead one that is ordered", room.lead(0, 1), 0);
        Checks.is("its track", room.ofSquadron(0, 6), 1);
        Checks.is("due as it was", room.ofSquadron(0, 7), 5);
        Checks.refuses(room, "lead(2, 0)", Checks.INDEX, () -> room.lead(2, 0));
        Checks.refuses(room, "lead(-1, 0)", Checks.INDEX, () -> room.lead(-1, 0));
        Checks.refuses(room, "lead(0, 2)", Checks.INDEX, () -> room.lead(0, 2));
        Checks.refuses(room, "lead(0, -1)", Checks.INDEX, () -> room.lead(0, -1));
        room.pass(4);
        Checks.is("it goes to the other one by x", room.ofSquadron(0, 3), 150 - 50 * 10 / 71);
        Checks.is("by y", room.ofSquadron(0, 4), 100 + 50 * 10 / 71);
        Checks.is("lead one that is up", room.lead(0, 0), 1);
        Checks.is("sent to the one", room.ofTrack(0, 10), 1);
        Checks.is("sent to the other", room.ofTrack(1, 10), 0);
        room.back(0);
        Checks.refuses(room, "lead of one on its way home", Checks.STATE, () -> room.lead(0, 0));

        Plotroom lost = withTrack(false, 1);
        lost.scramble(0, 0);
        lost.flight(false, 100, 150, 9, 0, 5, 5);
        lost.pass(20);
        Checks.is("the second track is lost", lost.ofTrack(1, 7), 0);
        Checks.is("up", lost.ofSquadron(0, 2), 2);
        Checks.refuses(lost, "lead to a lost track", Checks.STATE, () -> lost.lead(0, 1));
    }

    private static void back() {
        Plotroom room = withTrack(false, 1);
        Checks.refuses(room, "back(-1)", Checks.INDEX, () -> room.back(-1));
        Checks.refuses(room, "back(1)", Checks.INDEX, () -> room.back(1));
        Checks.refuses(room, "back of one that is grounded", Checks.STATE, () -> room.back(0));
        room.scramble(0, 0);
        Checks.is("back of one that is ordered", room.back(0), 0);
        Checks.is("without a track", room.ofSquadron(0, 6), -1);
        Checks.is("not due", room.ofSquadron(0, 7), -1);
        Checks.is("the track is free", room.ofTrack(0, 10), 0);
        room.scramble(0, 0);
        room.pass(5);
        Checks.is("two turns away", room.ofSquadron(0, 3), 130);
        Checks.is("back of one that is up", room.back(0), 3);
        Checks.is("home without a track", room.ofSquadron(0, 6), -1);
        Checks.refuses(room, "back of one on its way home", Checks.STATE, () -> room.back(0));
        room.pass(1);
        Checks.is("on its way", room.ofSquadron(0, 3), 140);
        Checks.is("fuel left", room.ofSquadron(0, 5), 47);
        Checks.is("home", room.ofSquadron(0, 2), 3);
        room.pass(1);
        Checks.is("turning", room.ofSquadron(0, 2), 4);
        Checks.is("fuel on the ground", room.ofSquadron(0, 5), 50);
        Checks.is("due in 12", room.ofSquadron(0, 7), room.room(0) + 12);
        Checks.refuses(room, "back of one that is turning", Checks.STATE, () -> room.back(0));
        Checks.refuses(room, "scramble of one that is turning", Checks.STATE, () -> room.scramble(0, 0));
        room.pass(11);
        Checks.is("turning still", room.ofSquadron(0, 2), 4);
        room.pass(1);
        Checks.is("grounded", room.ofSquadron(0, 2), 0);
        Checks.is("not due then", room.ofSquadron(0, 7), -1);
    }

    private static void reinforce() {
        Plotroom room = withTrack(false, 0);
        room.squadron(0, 3, 10, 50, 2);
        Checks.refuses(room, "reinforce(-1, 0)", Checks.INDEX, () -> room.reinforce(-1, 0));
        Checks.refuses(room, "reinforce(1, 1)", Checks.INDEX, () -> room.reinforce(1, 1));
        Checks.refuses(room, "reinforce(0, 0)", Checks.ARGUMENT, () -> room.reinforce(0, 0));
        Checks.refuses(room, "reinforce(0, 13)", Checks.ARGUMENT, () -> room.reinforce(0, 13));
        Checks.is("reinforce", room.reinforce(0, 4), 7);
        Checks.is("12 at most", room.reinforce(0, 12), 12);
        Checks.is("its machines", room.ofSquadron(0, 1), 12);
        room.scramble(0, 0);
        Checks.refuses(room, "reinforce one that is ordered", Checks.STATE, () -> room.reinforce(0, 1));
        Checks.refuses(room, "wrongly reinforce one that is ordered", Checks.ARGUMENT, () -> room.reinforce(0, 0));
        room.pass(2);
        Checks.refuses(room, "reinforce one that is up", Checks.STATE, () -> room.reinforce(0, 1));
    }

    private static void pass() {
        Plotroom room = new Plotroom();
        Checks.refuses(room, "pass(0)", Checks.ARGUMENT, () -> room.pass(0));
        Checks.refuses(room, "pass(61)", Checks.ARGUMENT, () -> room.pass(61));
        Checks.refuses(room, "pass(-1)", Checks.ARGUMENT, () -> room.pass(-1));
        Checks.refuses(room, "pass(much)", Checks.ARGUMENT, () -> room.pass(Integer.MAX_VALUE));
        for (int i = 1; i <= 16; i++) {
            Checks.is("pass(60)", room.pass(60), i * 60);
        }
        Checks.refuses(room, "pass(41) at 960", Checks.STATE, () -> room.pass(41));
        Checks.is("pass(39) at 960", room.pass(39), 999);
        Checks.refuses(room, "pass(2) at 999", Checks.STATE, () -> room.pass(2));
        Checks.is("pass(1) at 999", room.pass(1), 1000);
        Checks.refuses(room, "pass(1) at 1000", Checks.STATE, () -> room.pass(1));
        Checks.refuses(room, "pass(0) at 1000", Checks.ARGUMENT, () -> room.pass(0));
    }

    private static void call() {
        Plotroom room = new Plotroom();
        Checks.is("first call", room.call(), 1);
        Checks.is("second call", room.call(), 2);
        Checks.is("refused", room.room(20), 2);
        room.pass(1);
        Checks.is("third call", room.call(), 3);
        Checks.is("the minute stays", room.room(0), 1);
    }

    private OrdersTest() {
    }
}
