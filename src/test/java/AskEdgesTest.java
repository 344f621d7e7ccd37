/** Promises 19 to 35 at their edges: what is so, the table, and what would be. */
public final class AskEdgesTest {
    public static void main(String[] args) {
        numbers();
        whats();
        numbersAheadOfWhats();
        twoNumbers();
        roomOfAnEmptyOne();
        roomCounts();
        controllerAndAir();
        whereMinutes();
        whereRoundsTowardNothing();
        whereLastMinute();
        whereAtTheLastMinute();
        truthNearest();
        truthByXAndByY();
        truthOfNone();
        tableRows();
        tableCells();
        tableDigits();
        tableOfLost();
        seenWithinTwenty();
        seenParts();
        seenOfNone();
        meetFromNothingToThirty();
        meetOfOneThatMoves();
        meetEachState();
        meetOfLost();
        bestFuel();
        bestByReady();
        bestOnlyGrounded();
        bestSoonest();
        wouldWinLots();
        wouldWinWhateverTheyAre();
        wouldSoundFromNothingToThirty();
        wouldSoundOfLiveAndHostile();
        wouldSoundOfSeveral();
        soundInEachRoom();
        digests();
        asksChangeNothing();
        Checks.end();
    }

    private static void numbers() {
        Checks.edges(Rooms::full, "ofFlight of 12", Checks.INDEX, 0, 11, (room, flight) -> room.ofFlight(flight, 0));
        Checks.edges(Rooms::full, "ofMast of 5", Checks.INDEX, 0, 4, (room, mast) -> room.ofMast(mast, 0));
        Checks.edges(Rooms::full, "ofSquadron of 8", Checks.INDEX, 0, 7, (room, squadron) -> room.ofSquadron(squadron, 0));
        Checks.edges(Rooms::full, "ofTrack of 16", Checks.INDEX, 0, 15, (room, track) -> room.ofTrack(track, 0));
        Checks.edges(Rooms::full, "where of 16", Checks.INDEX, 0, 15, (room, track) -> room.where(track, 9, false));
        Checks.edges(Rooms::full, "truth of 16", Checks.INDEX, 0, 15, (room, track) -> room.truth(track));
        Checks.edges(Rooms::full, "siren of 6", Checks.INDEX, 0, 5, (room, town) -> room.siren(town));
        Checks.edges(Rooms::full, "best of 16", Checks.INDEX, 0, 15, (room, track) -> room.best(track));
        Checks.edges(Rooms::full, "wouldSound of 6", Checks.INDEX, 0, 5, (room, town) -> room.wouldSound(town));
        Checks.edges(Rooms::lively, "ofFlight of 3", Checks.INDEX, 0, 2, (room, flight) -> room.ofFlight(flight, 0));
        Checks.edges(Rooms::lively, "ofMast of 3", Checks.INDEX, 0, 2, (room, mast) -> room.ofMast(mast, 0));
        Checks.edges(Rooms::lively, "ofSquadron of 4", Checks.INDEX, 0, 3, (room, squadron) -> room.ofSquadron(squadron, 0));
        Checks.edges(Rooms::lively, "ofTrack of 8", Checks.INDEX, 0, 7, (room, track) -> room.ofTrack(track, 0));
        Checks.edges(Rooms::lively, "where of 8", Checks.INDEX, 0, 7, (room, track) -> room.where(track, 9, true));
        Checks.edges(Rooms::lively, "truth of 8", Checks.INDEX, 0, 7, (room, track) -> room.truth(track));
        Checks.edges(Rooms::lively, "siren of 2", Checks.INDEX, 0, 1, (room, town) -> room.siren(town));
        Checks.edges(Rooms::lively, "best of 8", Checks.INDEX, 0, 7, (room, track) -> room.best(track));
        Checks.edges(Rooms::lively, "wouldSound of 2", Checks.INDEX, 0, 1, (room, town) -> room.wouldSound(town));
        Checks.refusesForGood(Plotroom::new, "ofFlight of none", Checks.INDEX, room -> room.ofFlight(0, 0));
        Checks.refusesForGood(Plotroom::new, "ofMast of none", Checks.INDEX, room -> room.ofMast(0, 0));
        Checks.refusesForGood(Plotroom::new, "ofSquadron of none", Checks.INDEX, room -> room.ofSquadron(0, 0));
        Checks.refusesForGood(Plotroom::new, "ofTrack of none", Checks.INDEX, room -> room.ofTrack(0, 0));
        Checks.refusesForGood(Plotroom::new, "where of none", Checks.INDEX, room -> room.where(0, 0, false));
        Checks.refusesForGood(Plotroom::new, "truth of none", Checks.INDEX, room -> room.truth(0));
        Checks.refusesForGood(Plotroom::new, "siren of none", Checks.INDEX, room -> room.siren(0));
        Checks.refusesForGood(Plotroom::new, "best of none", Checks.INDEX, room -> room.best(0));
        Checks.refusesForGood(Plotroom::new, "wouldSound of none", Checks.INDEX, room -> room.wouldSound(0));
    }

    private static void whats() {
        Checks.edges(Rooms::lively, "ofFlight, what", Checks.ARGUMENT, 0, 7, (room, what) -> room.ofFlight(2, what));
        Checks.edges(Rooms::lively, "ofMast, what", Checks.ARGUMENT, 0, 9, (room, what) -> room.ofMast(2, what));
        Checks.edges(Rooms::lively, "ofSquadron, what", Checks.ARGUMENT, 0, 9, (room, what) -> room.ofSquadron(3, what));
        Checks.edges(Rooms::lively, "room, what", Checks.ARGUMENT, 0, 20, (room, what) -> room.room(what));
        Checks.edges(Rooms::lively, "ofTrack, what", Checks.ARGUMENT, 0, 10, (room, what) -> room.ofTrack(7, what));
        Checks.edges(Rooms::lively, "table, row", Checks.INDEX, 0, 9, (room, row) -> room.table(row));
        Checks.edges(Rooms::lively, "wouldWin, lot", Checks.ARGUMENT, 0, 240, (room, lot) -> room.wouldWin(0, 0, lot));
        Checks.edges(Plotroom::new, "room of an empty one, what", Checks.ARGUMENT, 0, 20, (room, what) -> room.room(what));
        Checks.edges(Plotroom::new, "table of an empty one, row", Checks.INDEX, 0, 9, (room, row) -> room.table(row));
    }

    private static void numbersAheadOfWhats() {
        for (int what : new int[] {-1, 99}) {
            Checks.refusesForGood(Rooms::lively, "ofFlight(3, wrong)", Checks.INDEX, room -> room.ofFlight(3, what));
            Checks.refusesForGood(Rooms::lively, "ofMast(-1, wrong)", Checks.INDEX, room -> room.ofMast(-1, what));
            Checks.refusesForGood(Rooms::lively, "ofSquadron(4, wrong)", Checks.INDEX, room -> room.ofSquadron(4, what));
            Checks.refusesForGood(Rooms::lively, "ofTrack(8, wrong)", Checks.INDEX, room -> room.ofTrack(8, what));
            Checks.refusesForGood(Rooms::lively, "where(8, wrong)", Checks.INDEX, room -> room.where(8, what < 0 ? -1 : 1201, true));
            Checks.refusesForGood(Rooms::lively, "wouldWin(4, 0, wrong)", Checks.INDEX, room -> room.wouldWin(4, 0, what * 3));
            Checks.refusesForGood(Rooms::lively, "wouldWin(0, 3, wrong)", Checks.INDEX, room -> room.wouldWin(0, 3, what * 3));
        }
    }

    private static void twoNumbers() {
        Checks.edges(Rooms::full, "sees, mast of 5", Checks.INDEX, 0, 4, (room, mast) -> room.sees(mast, 11));
        Checks.edges(Rooms::full, "sees, flight of 12", Checks.INDEX, 0, 11, (room, flight) -> room.sees(4, flight));
        Checks.edges(Rooms::full, "meet, squadron of 8", Checks.INDEX, 0, 7, (room, squadron) -> room.meet(squadron, 15));
        Checks.edges(Rooms::full, "meet, track of 16", Checks.INDEX, 0, 15, (room, track) -> room.meet(7, track));
        Checks.edges(Rooms::full, "wouldWin, squadron of 8", Checks.INDEX, 0, 7, (room, squadron) -> room.wouldWin(squadron, 11, 240));
        Checks.edges(Rooms::full, "wouldWin, flight of 12", Checks.INDEX, 0, 11, (room, flight) -> room.wouldWin(7, flight, 0));
        Checks.refusesForGood(Plotroom::new, "sees of none", Checks.INDEX, room -> room.sees(0, 0));
        Checks.refusesForGood(Plotroom::new, "meet of none", Checks.INDEX, room -> room.meet(0, 0));
        Checks.refusesForGood(Plotroom::new, "wouldWin of none", Checks.INDEX, room -> room.wouldWin(0, 0, 0));
        Checks.refusesForGood(AskEdgesTest::withoutFlights, "sees without flights", Checks.INDEX, room -> room.sees(0, 0));
        Checks.refusesForGood(AskEdgesTest::withoutFlights, "meet without tracks", Checks.INDEX, room -> room.meet(0, 0));
        Checks.refusesForGood(AskEdgesTest::withoutFlights, "wouldWin without flights", Checks.INDEX, room -> room.wouldWin(0, 0, 0));
        Checks.refusesForGood(AskEdgesTest::withFlightAlone, "sees without masts", Checks.INDEX, room -> room.sees(0, 0));
        Checks.refusesForGood(AskEdgesTest::withFlightAlone, "wouldWin without squadrons", Checks.INDEX, room -> room.wouldWin(0, 0, 0));
    }

    private static Plotroom withoutFlights() {
        Plotroom room = new Plotroom();
        room.mast(100, 100, 100, 0, 0, 0);
        room.station(100, 100);
        room.squadron(0, 6, 10, 50, 2);
        return room;
    }

    private static Plotroom withFlightAlone() {
        Plotroom room = new Plotroom();
        room.flight(true, 100, 100, 0, 0, 5, 9);
        return room;
    }

    private static void roomOfAnEmptyOne() {
        Plotroom room = new Plotroom();
        room.pass(60);
        Checks.is("minute", room.room(0), 60);
        for (int what = 1; what <= 20; what++) {
            Checks.is("room(" + what + ") of an empty one", room.room(what), 0);
        }
    }

    private static void roomCounts() {
        Plotroom room = Rooms.full();
        int live = 0;
        int[] kinds = new int[3];
        int counts = 0;
        int foes = 0;
        for (int i = 0; i < 16; i++) {
            live += room.ofTrack(i, 7);
            kinds[room.ofTrack(i, 8)] += room.ofTrack(i, 7);
        }
        for (int i = 0; i < 12; i++) {
            foes += room.ofFlight(i, 6) * room.ofFlight(i, 7);
            counts += room.ofFlight(i, 6) * room.ofFlight(i, 7) * room.ofFlight(i, 5);
        }
        int[] due = {5, 12, foes, counts, 16, live, kinds[0], kinds[2], 120, 106};
        for (int what = 0; what < due.length; what++) {
            Checks.is("room(" + what + ") of a full one", room.room(what), due[what]);
        }
        Checks.is("foes", foes, 9);
        Checks.is("drawn for 5 minutes of 5 masts and 12 flights", room.room(19), 2 * 5 * 5 * 12);
        Checks.is("plots on their way are at most those of 5, 4, 3, 2, 1 minutes", room.room(8), 12 * (1 + 2 + 3 + 4));
        room.pass(3);
        Checks.is("no more of them later", room.room(8), 12 * (1 + 2 + 3 + 4));
    }

    private static void controllerAndAir() {
        Plotroom room = Rooms.lively();
        Checks.is("in the air: one up, one on its way home", room.room(10), 2);
        Checks.is("talked to: one up, one ordered", room.room(11), 2);
        Checks.is("sent to the track: one up, one ordered", room.ofTrack(0, 10), 2);
        Checks.is("track of one on its way home", room.ofSquadron(1, 6), -1);
        Checks.is("track of one that is ordered", room.ofSquadron(2, 6), 0);
        Checks.is("track of one that is grounded", room.ofSquadron(3, 6), -1);
        Checks.is("due, one that is up", room.ofSquadron(0, 7), -1);
        Checks.is("due, one on its way home", room.ofSquadron(1, 7), -1);
        Checks.is("due, one that is ordered", room.ofSquadron(2, 7), 12);
        Checks.is("due, one that is grounded", room.ofSquadron(3, 7), -1);
    }

    /** A track that was seen in minute 5 with course 20 and -10, in minute 8. */
    private static Plotroom seenAtFive() {
        Plotroom room = new Plotroom();
        room.mast(100, 100, 150, 0, 0, 0);
        room.flight(true, 90, 105, 2, -1, 5, 9);
        room.pass(5);
        room.wire(0, true);
        room.pass(3);
        return room;
    }

    private static void whereMinutes() {
        Checks.edges(AskEdgesTest::seenAtFive, "where, minute", Checks.ARGUMENT, 5, 1200, (room, minute) -> room.where(0, minute, false));
        Checks.edges(AskEdgesTest::seenAtFive, "where, minute for y", Checks.ARGUMENT, 5, 1200, (room, minute) -> room.where(0, minute, true));
        Plotroom room = seenAtFive();
        Checks.is("x at its minute", room.where(0, 5, false), 100);
        Checks.is("y at its minute", room.where(0, 5, true), 100);
        Checks.is("x ahead of now", room.where(0, 7, false), 104);
        Checks.is("x now", room.where(0, 8, false), 106);
        Checks.is("y now", room.where(0, 8, true), 97);
        Checks.is("x later", room.where(0, 54, false), 198);
        Checks.is("x held to 199", room.where(0, 55, false), 199);
        Checks.is("y later", room.where(0, 104, true), 1);
        Checks.is("y at 0", room.where(0, 105, true), 0);
        Checks.is("y held to 0", room.where(0, 106, true), 0);
    }

    /** A track whose COURSE is 15 or -15 tenths, by x and by y. */
    private static void whereRoundsTowardNothing() {
        for (int byX = -1; byX <= 1; byX += 2) {
            for (int byY = -1; byY <= 1; byY += 2) {
                Plotroom room = new Plotroom();
                room.mast(100, 100, 150, 0, 0, 0);
                room.flight(true, 100, 90, byX, byY, 5, 9);
                room.pass(2);
                room.bend(0, 2 * byX, 2 * byY);
                room.pass(1);
                Checks.is("course by x", room.ofTrack(0, 3), 15 * byX);
                Checks.is("course by y", room.ofTrack(0, 4), 15 * byY);
                int[] due = {0, 1, 3, 4, 6, 7};
                for (int n = 0; n < due.length; n++) {
                    Checks.is("x " + n + " later", room.where(0, 3 + n, false), 100 + (4 + due[n]) * byX);
                    Checks.is("y " + n + " later", room.where(0, 3 + n, true), 90 + (4 + due[n]) * byY);
                }
            }
        }
    }

    private static void whereLastMinute() {
        Plotroom room = seenAtFive();
        Checks.is("x at 1200", room.where(0, 1200, false), 199);
        Checks.is("y at 1200", room.where(0, 1200, true), 0);
        Checks.refuses(room, "where at 1201", Checks.ARGUMENT, () -> room.where(0, 1201, false));
        Checks.refuses(room, "where at 4", Checks.ARGUMENT, () -> room.where(0, 4, true));
    }

    private static void whereAtTheLastMinute() {
        Plotroom room = new Plotroom();
        room.mast(100, 100, 150, 0, 0, 0);
        room.flight(true, 100, 100, 0, 0, 5, 9);
        for (int i = 0; i < 20; i++) {
            room.pass(50);
        }
        Checks.is("its minute", room.ofTrack(0, 2), 1000);
        Checks.is("x at 1000", room.where(0, 1000, false), 100);
        Checks.is("x at 1200", room.where(0, 1200, false), 100);
        Checks.refuses(room, "where at 999", Checks.ARGUMENT, () -> room.where(0, 999, false));
        Checks.is("hits", room.ofTrack(0, 6), 1000);
        Checks.is("drawn", room.room(19), 2000);
        Checks.is("sound", room.isSound(), true);
    }

    /** Track 0 is at 100, 100 and stands; two flights that no mast sees are so far from there. */
    private static int truthOf(int x, int y, int otherX, int otherY) {
        Plotroom room = new Plotroom();
        room.mast(100, 100, 50, 5, 0, 0);
        room.flight(true, 100, 100, 0, 0, 9, 9);
        room.pass(1);
        room.bend(0, 9, 9);
        room.wire(0, true);
        room.pass(4);
        room.flight(false, x, y, 0, 0, 5, 1);
        room.flight(true, otherX, otherY, 0, 0, 5, 1);
        Checks.is("where it is", room.ofFlight(0, 0), 136);
        return room.truth(0);
    }

    private static void truthNearest() {
        Checks.is("the first one of two", truthOf(110, 100, 100, 110), 1);
        Checks.is("the nearer one by 1", truthOf(110, 100, 100, 109), 2);
        Checks.is("both at the place", truthOf(100, 100, 100, 100), 1);
        Checks.is("its own one, as far as both", truthOf(136, 136, 64, 64), 0);
        Checks.is("its own one, nearer", truthOf(150, 150, 50, 50), 0);
        Checks.is("the last one", truthOf(137, 136, 136, 135), 2);
    }

    /** Track 0 was at 46, 112 and should be at 61, 92 now; its own flight has turned away, two others are so placed. */
    private static int truthAhead(int x, int y, int otherX, int otherY) {
        Plotroom room = new Plotroom();
        room.mast(100, 100, 150, 0, 0, 0);
        room.flight(true, 40, 120, 3, -4, 9, 9);
        room.pass(2);
        room.bend(0, 9, 9);
        room.wire(0, true);
        room.pass(5);
        room.flight(true, x, y, 0, 0, 5, 1);
        room.flight(false, otherX, otherY, 0, 0, 5, 1);
        Checks.is("where it should be by x", room.where(0, 7, false), 61);
        Checks.is("where it should be by y", room.where(0, 7, true), 92);
        return room.truth(0);
    }

    private static void truthByXAndByY() {
        Checks.is("nearer to where it should be", truthAhead(66, 92, 61, 88), 2);
        Checks.is("as far by y", truthAhead(61, 95, 61, 89), 1);
        Checks.is("nearer by y", truthAhead(61, 96, 61, 89), 2);
        Checks.is("as far by x", truthAhead(58, 92, 64, 92), 1);
        Checks.is("nearer by x", truthAhead(57, 92, 64, 92), 2);
        Checks.is("as far by x as by y", truthAhead(61, 89, 64, 92), 1);
    }

    private static void truthOfNone() {
        Plotroom room = seenAtFive();
        Checks.is("its flight", room.truth(0), 0);
        room.bend(0, 9, 9);
        room.pass(10);
        Checks.is("its flight, up still", room.ofFlight(0, 6), 1);
        Checks.is("of a track that is lost", room.truth(0), 0);
        room.pass(1);
        Checks.is("none is up", room.truth(0), -1);
        room.flight(false, 0, 0, 0, 0, 1, 1);
        Checks.is("the only one that is up", room.truth(0), 1);
    }

    private static void tableRows() {
        Plotroom room = Rooms.full();
        int live = 0;
        for (int row = 0; row < 10; row++) {
            String signs = room.table(row);
            Checks.is("signs", signs.length(), 10);
            for (int i = 0; i < 10; i++) {
                live += signs.charAt(i) == '.' ? 0 : signs.charAt(i) - '0';
            }
        }
        Checks.is("all live tracks", live, room.room(5));
        for (int row = 0; row < 10; row++) {
            Checks.isText("row of an empty one", new Plotroom().table(row), "..........");
        }
    }

    private static String cell(int x, int y, int row) {
        Plotroom room = new Plotroom();
        room.mast(100, 100, 150, 0, 0, 0);
        room.mast(x, y, 1, 0, 0, 0);
        room.flight(true, x, y, 0, 0, 5, 9);
        room.pass(1);
        Checks.is("one live track", room.room(5), 1);
        return room.table(row);
    }

    private static void tableCells() {
        Checks.isText("0, 0", cell(0, 0, 0), "1.........");
        Checks.isText("19, 19", cell(19, 19, 0), "1.........");
        Checks.isText("20, 19", cell(20, 19, 0), ".1........");
        Checks.isText("19, 20", cell(19, 20, 1), "1.........");
        Checks.isText("19, 20, the row ahead", cell(19, 20, 0), "..........");
        Checks.isText("39, 39", cell(39, 39, 1), ".1........");
        Checks.isText("40, 40", cell(40, 40, 2), "..1.......");
        Checks.isText("179, 180", cell(179, 180, 9), "........1.");
        Checks.isText("180, 179", cell(180, 179, 8), ".........1");
        Checks.isText("199, 199", cell(199, 199, 9), ".........1");
        Checks.isText("199, 199, the row ahead", cell(199, 199, 8), "..........");
        Checks.isText("199, 0", cell(199, 0, 0), ".........1");
        Checks.isText("0, 199", cell(0, 199, 9), "1.........");
    }

    private static void tableDigits() {
        for (int count = 1; count <= 12; count++) {
            Plotroom room = new Plotroom();
            room.gate(1);
            room.mast(100, 100, 50, 0, 0, 0);
            for (int i = 0; i < count; i++) {
                room.flight(true, 100 + i % 4 * 2, 100 + i / 4 * 2, 0, 0, 5, 9);
            }
            room.pass(1);
            Checks.is("tracks", room.room(5), count);
            Checks.isText("sign for " + count, room.table(5), "....." + (count < 9 ? count : 9) + "....");
        }
    }

    private static void tableOfLost() {
        Plotroom room = new Plotroom();
        room.mast(100, 100, 50, 0, 0, 0);
        room.flight(true, 100, 100, 0, 0, 5, 9);
        room.pass(1);
        room.wire(0, true);
        room.pass(6);
        Checks.isText("live", room.table(5), ".....1....");
        room.pass(1);
        Checks.isText("lost", room.table(5), "..........");
        Plotroom moving = new Plotroom();
        moving.mast(100, 100, 150, 0, 0, 0);
        moving.flight(true, 58, 43, 4, 3, 5, 9);
        moving.pass(5);
        moving.wire(0, true);
        moving.pass(3);
        Checks.is("it should be farther by x", moving.where(0, 8, false), 90);
        Checks.is("it should be farther by y", moving.where(0, 8, true), 67);
        Checks.isText("by its place", moving.table(2), "...1......");
        Checks.isText("not where it should be", moving.table(3), "..........");
    }

    private static double seenAt(int byX, int byY) {
        Plotroom room = new Plotroom();
        room.mast(100, 100, 5, 5, 0, 0);
        room.flight(true, 100, 100, 0, 0, 9, 9);
        room.pass(1);
        room.flight(false, 100 + byX, 100 + byY, 0, 0, 1, 1);
        return room.seen();
    }

    private static void seenWithinTwenty() {
        Checks.isPart("at 0", seenAt(0, 0), 1.0);
        Checks.isPart("at 20 by x", seenAt(20, 0), 1.0);
        Checks.isPart("at -20 by y", seenAt(0, -20), 1.0);
        Checks.isPart("at 12 and 16", seenAt(-12, 16), 1.0);
        Checks.isPart("at 12 and 17", seenAt(12, -17), 0.5);
        Checks.isPart("at 21 by x", seenAt(-21, 0), 0.5);
        Checks.isPart("at 21 by y", seenAt(0, 21), 0.5);
        Plotroom moving = seenAtFive();
        moving.bend(0, 0, 9);
        moving.flight(false, 126, 97, 0, 0, 1, 1);
        Checks.isPart("within 20 of where it should be", moving.seen(), 1.0);
        moving.flight(false, 86, 97, 0, 0, 1, 1);
        Checks.isPart("within 20 behind it", moving.seen(), 1.0);
        moving.flight(false, 106, 77, 0, 0, 1, 1);
        moving.flight(false, 106, 117, 0, 0, 1, 1);
        Checks.isPart("within 20 beside it", moving.seen(), 1.0);
        moving.flight(false, 127, 97, 0, 0, 1, 1);
        Checks.isPart("beyond it", moving.seen(), 5.0 / 6);
        moving.flight(false, 85, 97, 0, 0, 1, 1);
        moving.flight(false, 106, 76, 0, 0, 1, 1);
        moving.flight(false, 106, 118, 0, 0, 1, 1);
        Checks.isPart("beyond it on each side", moving.seen(), 5.0 / 9);
    }

    /** One flight is on the table, the others are far from it. */
    private static Plotroom withOneSeenOf(int all) {
        Plotroom room = new Plotroom();
        room.mast(100, 100, 5, 5, 0, 0);
        room.flight(true, 100, 100, 0, 0, 9, 9);
        Checks.isPart("none of one", room.seen(), 0.0);
        room.pass(1);
        for (int i = 1; i < all; i++) {
            room.flight(i % 2 == 0, 10, 10, 0, 0, 1, 1);
        }
        return room;
    }

    private static void seenParts() {
        for (int all = 1; all <= 12; all++) {
            Plotroom room = withOneSeenOf(all);
            Checks.isPart("one of " + all, room.seen(), 1.0 / all);
            Checks.is("digest with one of " + all, room.digest(), Digests.of(room));
        }
    }

    private static void seenOfNone() {
        Plotroom room = new Plotroom();
        Checks.isPart("without flights", room.seen(), 1.0);
        room.flight(true, 199, 199, 1, 1, 5, 9);
        Checks.isPart("none of one", room.seen(), 0.0);
        room.pass(1);
        Checks.isPart("without flights that are up", room.seen(), 1.0);
        room.flight(true, 10, 10, 0, 0, 5, 9);
        Checks.isPart("none of one that is up", room.seen(), 0.0);
        Plotroom gone = seenAtFive();
        gone.flight(true, 199, 199, 1, 1, 5, 9);
        Checks.isPart("one of two", gone.seen(), 0.5);
        gone.pass(1);
        Checks.isPart("one of one that is up", gone.seen(), 1.0);
        Plotroom lost = seenAtFive();
        Checks.isPart("by a live track", lost.seen(), 1.0);
        lost.pass(4);
        Checks.isPart("not by a lost one", lost.seen(), 0.0);
    }

    /** Squadron 0 with READY 1 at 20, 20, and a track that stands so far from there. */
    private static int meetAt(int speed, int byX, int byY) {
        Plotroom room = new Plotroom();
        room.mast(100, 100, 150, 0, 0, 0);
        room.flight(false, 20 + byX, 20 + byY, 0, 0, 5, 9);
        room.station(20, 20);
        room.squadron(0, 6, speed, 99, 1);
        room.pass(1);
        return room.meet(0, 0);
    }

    private static void meetFromNothingToThirty() {
        Checks.is("at its station", meetAt(5, 0, 0), 1);
        Checks.is("1 from its station", meetAt(5, 1, 0), 2);
        Checks.is("5 from its station", meetAt(5, 0, 5), 2);
        Checks.is("6 from its station", meetAt(5, 6, 0), 3);
        Checks.is("3 and 4", meetAt(5, 3, 4), 2);
        Checks.is("4 and 4", meetAt(5, 4, 4), 3);
        Checks.is("145 by 5", meetAt(5, 145, 0), 30);
        Checks.is("146 by 5", meetAt(5, 146, 0), 31);
        Checks.is("150 by 5", meetAt(5, 150, 0), 31);
        Checks.is("151 by 5", meetAt(5, 151, 0), -1);
        Checks.is("90 and 120 by 5", meetAt(5, 90, 120), 31);
        Checks.is("90 and 121 by 5", meetAt(5, 90, 121), -1);
        Checks.is("151 by 6", meetAt(6, 151, 0), 27);
        Checks.is("20 by 20", meetAt(20, 20, 0), 2);
        Checks.is("21 by 20", meetAt(20, 0, 21), 3);
    }

    /** A track that comes by 4 a minute by x and by y, 60 away by both as squadron 0 with READY 5 would come up. */
    private static void meetOfOneThatMoves() {
        int[][] due = {{5, 8}, {10, 6}, {20, 4}};
        for (int[] d : due) {
            Plotroom room = new Plotroom();
            room.mast(100, 100, 150, 0, 0, 0);
            room.flight(false, 12, 12, 4, 4, 5, 9);
            room.station(100, 100);
            room.squadron(0, 6, d[0], 99, 5);
            room.pass(2);
            Checks.is("x as it would come up", room.where(0, 7, false), 40);
            Checks.is("meet with speed " + d[0], room.meet(0, 0), 5 + d[1]);
            Checks.is("best", room.best(0), 0);
        }
    }

    private static Plotroom forMeet(int ready) {
        Plotroom room = new Plotroom();
        room.mast(100, 100, 150, 0, 0, 0);
        room.flight(false, 100, 100, 0, 0, 5, 9);
        room.station(130, 100);
        room.squadron(0, 6, 10, 50, ready);
        room.pass(1);
        return room;
    }

    private static void meetEachState() {
        for (int ready : new int[] {1, 15}) {
            Plotroom room = forMeet(ready);
            Checks.is("grounded", room.meet(0, 0), ready + 3);
            room.scramble(0, 0);
            if (ready > 1) {
                room.pass(ready - 1);
            }
            Checks.is("ordered", room.ofSquadron(0, 2), 1);
            Checks.is("one that is ordered, by READY still", room.meet(0, 0), ready + 3);
            room.pass(1);
            Checks.is("up", room.meet(0, 0), 3);
            room.pass(1);
            Checks.is("up, one turn nearer", room.meet(0, 0), 2);
            room.back(0);
            Checks.is("home", room.meet(0, 0), 2);
            room.pass(1);
            Checks.is("turning", room.ofSquadron(0, 2), 4);
            Checks.is("one that is turning, by READY", room.meet(0, 0), ready + 3);
        }
        Plotroom at = forMeet(1);
        at.scramble(0, 0);
        at.pass(4);
        Checks.is("up, at the track", at.meet(0, 0), 0);
        at.back(0);
        Checks.is("home, at the track", at.meet(0, 0), 0);
    }

    private static void meetOfLost() {
        Plotroom room = forMeet(3);
        room.wire(0, true);
        room.pass(6);
        Checks.is("live", room.meet(0, 0), 6);
        room.pass(1);
        Checks.is("lost", room.ofTrack(0, 7), 0);
        Checks.is("of one that is lost", room.meet(0, 0), 6);
        room.pass(50);
        Checks.is("of one that is long lost", room.meet(0, 0), 6);
        Checks.is("best of one that is lost", room.best(0), 0);
    }

    private static int bestWith(int fuel, int ready, int away) {
        Plotroom room = new Plotroom();
        room.mast(100, 100, 150, 0, 0, 0);
        room.flight(false, 20 + away, 20, 0, 0, 5, 9);
        room.station(20, 20);
        room.squadron(0, 6, 5, fuel, ready);
        room.pass(1);
        return room.best(0);
    }

    private static void bestFuel() {
        for (int ready : new int[] {1, 15}) {
            Checks.is("none in the air, fuel 10", bestWith(10, ready, 0), 0);
            Checks.is("3 in the air, fuel 10", bestWith(10, ready, 15), 0);
            Checks.is("4 in the air, fuel 10", bestWith(10, ready, 16), -1);
            Checks.is("4 in the air, fuel 11", bestWith(11, ready, 20), 0);
            Checks.is("5 in the air, fuel 12", bestWith(12, ready, 21), -1);
            Checks.is("5 in the air, fuel 13", bestWith(13, ready, 25), 0);
            Checks.is("30 in the air, fuel 62", bestWith(62, ready, 150), -1);
            Checks.is("30 in the air, fuel 63", bestWith(63, ready, 150), 0);
            Checks.is("31 in the air, fuel 99", bestWith(99, ready, 151), -1);
        }
    }

    /** The track comes by 4 a minute: as of now 13 minutes in the air would be needed, after READY only 8. */
    private static int bestOfOneThatComes(int fuel) {
        Plotroom room = new Plotroom();
        room.mast(100, 100, 150, 0, 0, 0);
        room.flight(false, 30, 100, 4, 0, 5, 9);
        room.station(150, 100);
        room.squadron(0, 6, 5, fuel, 10);
        room.pass(2);
        Checks.is("ready and the way", room.meet(0, 0), 18);
        return room.best(0);
    }

    private static void bestByReady() {
        Checks.is("8 in the air, fuel 18", bestOfOneThatComes(18), -1);
        Checks.is("8 in the air, fuel 19", bestOfOneThatComes(19), 0);
    }

    private static void bestOnlyGrounded() {
        Plotroom room = forMeet(1);
        Checks.is("grounded", room.best(0), 0);
        room.scramble(0, 0);
        Checks.is("ordered", room.best(0), -1);
        room.pass(1);
        Checks.is("up", room.best(0), -1);
        room.pass(1);
        room.back(0);
        Checks.is("home", room.best(0), -1);
        room.pass(1);
        Checks.is("turning", room.best(0), -1);
        room.pass(11);
        Checks.is("turning still", room.best(0), -1);
        room.pass(1);
        Checks.is("grounded again", room.best(0), 0);

        Plotroom without = new Plotroom();
        without.mast(100, 100, 50, 0, 0, 0);
        without.flight(true, 100, 100, 0, 0, 5, 99);
        without.station(100, 100);
        without.squadron(0, 1, 10, 50, 1);
        without.pass(1);
        Checks.is("with a machine", without.best(0), 0);
        without.scramble(0, 0);
        without.pass(1);
        Checks.is("grounded", without.ofSquadron(0, 2), 0);
        Checks.is("without machines", without.best(0), -1);
        without.reinforce(0, 1);
        Checks.is("with one again", without.best(0), 0);
    }

    /** Each squadron is told by machines, speed and ready; the track stands 30 from the station. */
    private static int bestOf(int[]... squadrons) {
        Plotroom room = new Plotroom();
        room.mast(100, 100, 150, 0, 0, 0);
        room.flight(false, 100, 100, 0, 0, 5, 9);
        room.station(130, 100);
        for (int[] s : squadrons) {
            room.squadron(0, s[0], s[1], 50, s[2]);
        }
        room.pass(1);
        return room.best(0);
    }

    private static void bestSoonest() {
        Checks.is("none", bestOf(), -1);
        Checks.is("one", bestOf(new int[] {1, 10, 1}), 0);
        Checks.is("the second one sooner by 1", bestOf(new int[] {12, 10, 2}, new int[] {1, 10, 1}), 1);
        Checks.is("the first one sooner by 1", bestOf(new int[] {1, 10, 1}, new int[] {12, 10, 2}), 0);
        Checks.is("ready and the way together", bestOf(new int[] {6, 5, 1}, new int[] {5, 10, 3}), 1);
        Checks.is("ready and the way as long", bestOf(new int[] {6, 5, 1}, new int[] {5, 10, 4}), 0);
        Checks.is("as soon with more machines", bestOf(new int[] {5, 10, 4}, new int[] {6, 5, 1}), 1);
        Checks.is("as soon with fewer machines", bestOf(new int[] {6, 10, 4}, new int[] {5, 10, 4}), 0);
        Checks.is("as soon with as many", bestOf(new int[] {6, 10, 4}, new int[] {6, 10, 4}), 0);
        Checks.is("the last of three", bestOf(new int[] {6, 10, 4}, new int[] {7, 10, 4}, new int[] {8, 10, 4}), 2);
        Checks.is("the middle one of three", bestOf(new int[] {6, 10, 4}, new int[] {8, 10, 4}, new int[] {8, 10, 4}), 1);
    }

    private static void wouldWinLots() {
        Plotroom room = new Plotroom();
        room.station(0, 0);
        room.flight(true, 199, 199, 0, 0, 1, 99);
        room.flight(true, 199, 199, 0, 0, 1, 1);
        for (int machines = 1; machines <= 12; machines += machines < 8 ? 7 : 4) {
            room.squadron(0, machines, 5, 10, 1);
        }
        int[][] due = {{0, 0, 0, 0, 0, 0}, {2, 3, 4, 5, 6, 7}, {3, 4, 6, 7, 9, 10}};
        for (int squadron = 0; squadron < 3; squadron++) {
            for (int lot = 0; lot <= 240; lot += lot < 6 ? 1 : 13) {
                Checks.is("wouldWin with " + lot, room.wouldWin(squadron, 0, lot), due[squadron][lot % 6]);
                Checks.is("of one machine, with " + lot, room.wouldWin(squadron, 1, lot), Math.min(1, due[squadron][lot % 6]));
            }
            Checks.is("wouldWin with 240", room.wouldWin(squadron, 0, 240), due[squadron][0]);
        }
        Checks.is("nothing is drawn", room.room(19), 0);
        Checks.is("nothing is won", room.room(13), 0);
    }

    private static void wouldWinWhateverTheyAre() {
        Plotroom room = new Plotroom();
        room.mast(100, 100, 50, 0, 0, 0);
        room.flight(true, 100, 100, 0, 0, 5, 99);
        room.station(100, 100);
        room.squadron(0, 1, 10, 50, 1);
        room.squadron(0, 12, 10, 50, 9);
        room.pass(1);
        room.scramble(0, 0);
        room.scramble(1, 0);
        room.pass(1);
        Checks.is("of one without machines", room.wouldWin(0, 0, 5), 0);
        Checks.is("of one that is ordered", room.wouldWin(1, 0, 5), 10);
        room.flight(false, 0, 0, 0, 0, 1, 4);
        Checks.is("with an own flight", room.wouldWin(1, 1, 5), 4);
        room.flight(true, 0, 0, -1, 0, 1, 9);
        room.pass(1);
        Checks.is("gone", room.ofFlight(2, 6), 0);
        Checks.is("with one that has left", room.wouldWin(1, 2, 5), 9);
        room.gun(50, 50, 1);
        room.flight(true, 50, 50, 0, 0, 1, 1);
        for (int i = 0; i < 20 && room.ofFlight(3, 6) == 1; i++) {
            room.pass(1);
        }
        Checks.is("count", room.ofFlight(3, 5), 0);
        Checks.is("with one that was shot down", room.wouldWin(1, 3, 5), 0);
    }

    /** A hostile track that has come from 0 by so much a minute, in minute 3, and a town ahead of it. */
    private static Plotroom comingBy(int eastward, int townX) {
        Plotroom room = new Plotroom();
        room.mast(100, 100, 150, 0, 0, 0);
        room.flight(true, 0, 100, eastward, 0, 5, 9);
        room.town(townX, 100, 9);
        room.pass(3);
        return room;
    }

    /** By 5 the track is at 15, so it should be within 10 of a town at x in (x - 25) / 5 minutes; by 4 in (x - 22) / 4. */
    private static void wouldSoundFromNothingToThirty() {
        int[][] due = {{4, -1}, {5, 0}, {25, 0}, {26, 0}, {65, 0}, {66, 1}, {70, 1}, {71, 2}, {175, 22}, {176, 23}};
        for (int[] d : due) {
            Plotroom room = comingBy(5, d[0]);
            Checks.is("town at " + d[0], room.wouldSound(0), d[1]);
            Checks.is("siren at " + d[0], room.siren(0), d[1] == 0);
        }
        int[][] slow = {{170, 29}, {171, 30}, {174, 30}, {175, -1}};
        for (int[] d : slow) {
            Checks.is("by 4, town at " + d[0], comingBy(4, d[0]).wouldSound(0), d[1]);
        }
        Plotroom room = comingBy(4, 174);
        room.wire(0, true);
        room.pass(1);
        Checks.is("a minute later", room.wouldSound(0), 29);
        Checks.refuses(room, "one town", Checks.INDEX, () -> room.wouldSound(1));
    }

    private static void wouldSoundOfLiveAndHostile() {
        Plotroom room = comingBy(5, 100);
        Checks.is("75 by 5, less 8", room.wouldSound(0), 7);
        room.plan(3, 3, 15, 100, 1);
        Checks.is("a friend", room.wouldSound(0), -1);
        room.pass(1);
        Checks.is("hostile again", room.wouldSound(0), 6);
        room.wire(0, true);
        room.pass(6);
        Checks.is("as if it stayed live", room.wouldSound(0), 0);
        Checks.is("sounding", room.siren(0), true);
        room.pass(1);
        Checks.is("lost", room.wouldSound(0), -1);
        Checks.is("not sounding", room.siren(0), false);

        Plotroom two = new Plotroom();
        two.mast(100, 100, 150, 0, 0, 0);
        two.flight(true, 0, 100, 5, 0, 5, 9);
        two.town(100, 100, 9);
        two.pass(2);
        Checks.is("two hits", two.wouldSound(0), -1);
        two.pass(1);
        Checks.is("three hits", two.wouldSound(0), 7);
    }

    /** The first of all tracks that come near makes the siren sound, whichever number it has. */
    private static void wouldSoundOfSeveral() {
        for (int first = 0; first < 3; first++) {
            Plotroom room = new Plotroom();
            room.mast(100, 100, 150, 0, 0, 0);
            int[] eastward = {3, 3, 3};
            eastward[first] = 5;
            for (int i = 0; i < 3; i++) {
                room.flight(true, 0, 60 + 40 * i, eastward[i], 0, 5, 9);
                room.town(90, 60 + 40 * i, 10 + i);
            }
            room.town(199, 0, 1);
            room.pass(3);
            for (int i = 0; i < 3; i++) {
                Checks.is("its own track", room.wouldSound(i), i == first ? 5 : 16);
            }
            Checks.is("too far", room.wouldSound(3), -1);
        }
        for (int first = 0; first < 2; first++) {
            Plotroom room = new Plotroom();
            room.mast(100, 100, 150, 0, 0, 0);
            room.flight(true, 0, 100, first == 0 ? 5 : 3, 0, 5, 9);
            room.flight(true, 199, 100, first == 0 ? -3 : -5, 0, 5, 9);
            room.flight(true, 100, 0, 0, 2, 5, 9);
            room.town(100, 100, 9);
            room.pass(3);
            Checks.is("the first of three", room.wouldSound(0), 7);
        }
    }

    private static void soundInEachRoom() {
        Checks.is("an empty one", new Plotroom().isSound(), true);
        Plotroom[] rooms = {Rooms.lively(), Rooms.full()};
        for (Plotroom room : rooms) {
            for (int i = 0; i < 40; i++) {
                Checks.is("sound in minute " + room.room(0), room.isSound(), true);
                room.wire(i % 3, i % 2 == 0);
                room.pass(1 + i % 3);
            }
            for (int mast = 0; mast < 3; mast++) {
                Checks.is("plots are lost", room.ofMast(mast, 9) > 0, true);
            }
        }
    }

    private static void digests() {
        Checks.is("an empty one", new Plotroom().digest(), Digests.of(new Plotroom()));
        Checks.is("a lively one", Rooms.lively().digest(), Digests.of(Rooms.lively()));
        Plotroom lively = Rooms.lively();
        for (int i = 0; i < 20; i++) {
            lively.pass(1 + i % 2);
        }
        long digest = lively.digest();
        Checks.is("a lively one later", digest, Digests.of(lively));
        Plotroom full = Rooms.full();
        Checks.is("a full one", full.digest(), Digests.of(full));
        Checks.is("the same again", full.digest(), Rooms.full().digest());
    }

    private static void ask(Plotroom room) {
        for (int i = 0; i < 3; i++) {
            room.ofFlight(i, i);
            room.sees(i, i);
            room.ofMast(i, i);
            room.ofSquadron(i, i);
            room.room(i);
            room.ofTrack(i, i);
            room.where(i, 99, true);
            room.truth(i);
            room.table(i);
            room.meet(i, i);
            room.best(i);
            room.wouldWin(i, i, i);
        }
        room.siren(1);
        room.wouldSound(1);
        room.seen();
        room.isSound();
        room.digest();
    }

    private static void asksChangeNothing() {
        Plotroom asked = Rooms.lively();
        ask(asked);
        ask(asked);
        Checks.isText("a lively one", Stories.of(asked), Stories.of(Rooms.lively()));
        Plotroom full = Rooms.full();
        ask(full);
        Checks.isText("a full one", Stories.of(full), Stories.of(Rooms.full()));
    }

    private AskEdgesTest() {
    }
}
