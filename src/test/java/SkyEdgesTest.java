/** Terms 0 to 3 at their edges: draws, flights, masts, plots, tracks, plans. */
public final class SkyEdgesTest {
    public static void main(String[] args) {
        drawnRowGoesRound();
        flightsLeaveOnEachSide();
        flightsThatAreGoneStay();
        flightsShotDown();
        rangeOfMasts();
        blindOfMasts();
        slipZeroDrawsTwo();
        plotsAreHeld();
        guessOfCounts();
        greaterGuessStays();
        guessAsItWasMade();
        mastByMast();
        lagOfMasts();
        wireWhenThePlotIsDue();
        wireOfItsOwnMast();
        sixteenTracks();
        gateIsCounted();
        gateOfWhereItShouldBe();
        nearestThenSmallest();
        tracksThatAreNewerThanThePlot();
        lostTracksTakeNoPlots();
        courseRoundsTowardZero();
        sameMinuteHalves();
        whereIsHeld();
        lostAfterSix();
        lostAtOnceByLag();
        planMinutesAreCounted();
        planRadiusIsCounted();
        planOfTrackMinute();
        friendlySquadron();
        friendByItsPlace();
        hostileFromThreeHits();
        Checks.end();
    }

    private static void track(Plotroom room, int track, int... due) {
        for (int what = 0; what < due.length; what++) {
            Checks.is("minute " + room.room(0) + ", ofTrack(" + track + ", " + what + ")", room.ofTrack(track, what), due[what]);
        }
    }

    private static Plotroom withMast(int lag) {
        Plotroom room = new Plotroom();
        room.mast(100, 100, 150, 0, 0, lag);
        return room;
    }

    /** The row is more than 240 long, so that it has begun again. */
    private static void drawnRowGoesRound() {
        Plotroom room = new Plotroom();
        room.gate(40);
        room.mast(100, 100, 150, 0, 4, 0);
        room.flight(false, 100, 100, 0, 0, 5, 1);
        int lot = 11;
        for (int minute = 1; minute <= 160; minute++) {
            room.pass(1);
            Checks.is("x in minute " + minute, room.ofTrack(0, 0), 100 + lot % 9 - 4);
            lot = (53 * lot + 29) % 241;
            Checks.is("y in minute " + minute, room.ofTrack(0, 1), 100 + lot % 9 - 4);
            lot = (53 * lot + 29) % 241;
        }
        Checks.is("drawn", room.room(19), 320);
    }

    private static void leaves(String side, int x, int y, int eastward, int southward) {
        Plotroom room = new Plotroom();
        room.flight(true, x, y, eastward, southward, 5, 7);
        room.pass(1);
        Checks.is(side + ", up at the edge", room.ofFlight(0, 6), 1);
        Checks.is(side + ", x at the edge", room.ofFlight(0, 0), x + eastward);
        Checks.is(side + ", y at the edge", room.ofFlight(0, 1), y + southward);
        room.pass(1);
        Checks.is(side + ", gone", room.ofFlight(0, 6), 0);
        Checks.is(side + ", x where it was last", room.ofFlight(0, 0), x + eastward);
        Checks.is(side + ", y where it was last", room.ofFlight(0, 1), y + southward);
        Checks.is(side + ", its count stays", room.ofFlight(0, 5), 7);
    }

    private static void flightsLeaveOnEachSide() {
        leaves("west", 1, 50, -1, 3);
        leaves("east", 198, 50, 1, -3);
        leaves("north", 50, 1, 3, -1);
        leaves("south", 50, 198, -3, 1);
        leaves("west by 9", 9, 50, -9, 9);
        leaves("east by 9", 190, 50, 9, -9);
        leaves("north by 9", 50, 9, 9, -9);
        leaves("south by 9", 50, 190, -9, 9);
    }

    private static void flightsThatAreGoneStay() {
        Plotroom room = withMast(0);
        room.flight(true, 199, 100, 1, 1, 9, 50);
        room.gun(199, 100, 20);
        room.town(199, 100, 9);
        room.pass(3);
        Checks.is("it stays", room.ofFlight(0, 1), 100);
        Checks.is("not seen", room.sees(0, 0), false);
        Checks.is("no plots", room.ofMast(0, 7), 0);
        Checks.is("nothing is drawn for it", room.room(19), 0);
        Checks.is("no lives", room.room(18), 0);
        Checks.is("none is up", room.room(1) + room.room(2) + room.room(3), 0);
    }

    /** Of the row 11, 130, 171, 175, 146, 55 the second, the fourth and the sixth can be divided by 5. */
    private static void flightsShotDown() {
        Plotroom room = new Plotroom();
        room.flight(true, 50, 50, 1, 0, 5, 2);
        room.gun(52, 50, 20);
        int[] due = {2, 1, 1, 0, 0};
        for (int i = 0; i < due.length; i++) {
            room.pass(1);
            Checks.is("count in minute " + (i + 1), room.ofFlight(0, 5), due[i]);
            Checks.is("up in minute " + (i + 1), room.ofFlight(0, 6), due[i] > 0 ? 1 : 0);
            Checks.is("counts of foes in minute " + (i + 1), room.room(3), due[i]);
        }
        Checks.is("where it was last", room.ofFlight(0, 0), 54);
        Checks.is("nothing is drawn for one that is gone", room.room(19), 4);
    }

    private static boolean sees(int range, int byX, int byY) {
        Plotroom room = new Plotroom();
        room.mast(199, 199, range, 0, 0, 0);
        room.flight(true, 199 - byX, 199 - byY, 0, 0, 1, 1);
        boolean answer = room.sees(0, 0);
        room.pass(1);
        Checks.is("plots with range " + range + " at " + byX + ", " + byY, room.ofMast(0, 7), answer ? 1 : 0);
        return answer;
    }

    private static void rangeOfMasts() {
        Checks.is("range 1 at 0", sees(1, 0, 0), true);
        Checks.is("range 1 at 1 by x", sees(1, 1, 0), true);
        Checks.is("range 1 at 1 by y", sees(1, 0, 1), true);
        Checks.is("range 1 at 1 by both", sees(1, 1, 1), false);
        Checks.is("range 1 at 2", sees(1, 2, 0), false);
        Checks.is("range 5 at 3 and 4", sees(5, 3, 4), true);
        Checks.is("range 5 at 4 and 4", sees(5, 4, 4), false);
        Checks.is("range 150 at 150", sees(150, 150, 0), true);
        Checks.is("range 150 at 151", sees(150, 0, 151), false);
        Checks.is("range 150 at 90 and 120", sees(150, 90, 120), true);
        Checks.is("range 150 at 90 and 121", sees(150, 90, 121), false);
    }

    private static void blindOfMasts() {
        for (int blind = 0; blind <= 9; blind++) {
            Plotroom room = new Plotroom();
            room.mast(100, 100, 10, blind, 0, 0);
            for (int height = 1; height <= 9; height++) {
                room.flight(true, 100, 100, 0, 0, height, 1);
                Checks.is("height " + height + " with blind " + blind, room.sees(0, height - 1), height > blind);
            }
            room.pass(1);
            Checks.is("plots with blind " + blind, room.ofMast(0, 7), 9 - blind);
        }
    }

    private static void slipZeroDrawsTwo() {
        Plotroom room = new Plotroom();
        room.mast(100, 100, 10, 0, 0, 5);
        room.flight(true, 100, 100, 0, 0, 5, 1);
        room.flight(true, 101, 100, 0, 0, 5, 1);
        room.pass(1);
        Checks.is("two for each plot as it is made", room.room(19), 4);
        room.pass(5);
        Checks.is("none as it comes", room.room(19), 24);
        Checks.is("where it is", room.ofTrack(0, 1), 100);
    }

    /** With 11 and 130 drawn first and slip 9, x is 2 more and y is 7 more; with 171 and 175 and slip 9 x is 9 less and y is 5 less. */
    private static void plotsAreHeld() {
        int[][] due = {{196, 190, 198, 197}, {197, 192, 199, 199}, {198, 193, 199, 199}, {199, 199, 199, 199}};
        for (int[] d : due) {
            Plotroom room = new Plotroom();
            room.mast(d[0], d[1], 10, 0, 9, 0);
            room.flight(true, d[0], d[1], 0, 0, 5, 1);
            room.pass(1);
            track(room, 0, d[2], d[3]);
        }
        int[][] low = {{10, 6, 1, 1}, {9, 5, 0, 0}, {8, 4, 0, 0}, {0, 0, 0, 0}};
        for (int[] d : low) {
            track(withPlotElsewhere(d[0], d[1]), 1, d[2], d[3]);
        }
    }

    /** The first two numbers are drawn for a plot elsewhere. */
    private static Plotroom withPlotElsewhere(int x, int y) {
        Plotroom room = new Plotroom();
        room.mast(150, 150, 5, 0, 0, 0);
        room.mast(x, y, 5, 0, 9, 0);
        room.flight(true, 150, 150, 0, 0, 5, 1);
        room.flight(true, x, y, 0, 0, 5, 1);
        room.pass(1);
        return room;
    }

    private static void guessOfCounts() {
        int[][] due = {{1, 1}, {8, 8}, {9, 9}, {10, 10}, {11, 10}, {19, 10}, {20, 20}, {89, 80}, {90, 90}, {99, 90}};
        for (int[] d : due) {
            Plotroom room = withMast(0);
            room.flight(true, 100, 100, 0, 0, 5, d[0]);
            room.pass(1);
            Checks.is("guess of " + d[0], room.ofTrack(0, 5), d[1]);
        }
    }

    /** Of the row 11, 130, 171, 175, 146, 55 the gun gets 171, which it misses with, and 55, which it hits with. */
    private static void greaterGuessStays() {
        Plotroom room = withMast(0);
        room.flight(true, 100, 100, 0, 0, 5, 10);
        room.gun(100, 100, 5);
        room.pass(2);
        Checks.is("count by then", room.ofFlight(0, 5), 9);
        track(room, 0, 100, 100, 2, 0, 0, 10, 2);
        room.pass(1);
        track(room, 0, 100, 100, 3, 0, 0, 10, 3);
        room.flight(true, 100, 100, 0, 0, 5, 20);
        room.pass(1);
        track(room, 0, 100, 100, 4, 0, 0, 20, 5);
    }

    /** The gun brings the count to 9 in minute 2, so the plots of minutes 1 and 2 have a guess of 10, that of minute 3 has 9. */
    private static void guessAsItWasMade() {
        Plotroom room = withMast(3);
        room.flight(true, 100, 100, 0, 0, 5, 10);
        room.gun(100, 100, 5);
        room.pass(3);
        Checks.is("count by then", room.ofFlight(0, 5), 9);
        room.pass(1);
        track(room, 0, 100, 100, 1, 0, 0, 10, 1);

        Plotroom late = withMast(3);
        late.flight(true, 100, 100, 0, 0, 5, 10);
        late.gun(100, 100, 5);
        late.wire(0, true);
        late.pass(5);
        late.wire(0, false);
        late.pass(1);
        track(late, 0, 100, 100, 3, 0, 0, 9, 1);
    }

    /** The first mast draws 11, 130 and 171, 175 for both flights, the second one 146, 55 and 52, 134. */
    private static void mastByMast() {
        Plotroom room = new Plotroom();
        room.mast(100, 100, 50, 0, 0, 0);
        room.mast(100, 100, 50, 0, 9, 1);
        room.flight(true, 80, 80, 0, 0, 5, 1);
        room.flight(true, 120, 120, 0, 0, 5, 1);
        room.gate(1);
        room.pass(1);
        track(room, 0, 80, 80, 1);
        track(room, 1, 120, 120, 1);
        room.pass(1);
        Checks.is("drawn", room.room(19), 16);
        Checks.is("the plots of the second mast are far from both", room.room(4), 4);
        track(room, 2, 80 + 146 % 19 - 9, 80 + 55 % 19 - 9, 1);
        track(room, 3, 120 + 52 % 19 - 9, 120 + 134 % 19 - 9, 1);
    }

    private static void lagOfMasts() {
        for (int lag = 0; lag <= 5; lag++) {
            Plotroom room = withMast(lag);
            room.flight(true, 50, 50, 1, 2, 5, 7);
            for (int minute = 1; minute <= lag; minute++) {
                room.pass(1);
                Checks.is("lag " + lag + ", tracks in minute " + minute, room.room(4), 0);
                Checks.is("lag " + lag + ", on their way in minute " + minute, room.room(8), minute);
                Checks.is("lag " + lag + ", came in minute " + minute, room.ofMast(0, 8), 0);
            }
            room.pass(1);
            track(room, 0, 51, 52, 1, 0, 0, 7, 1, 1, 1, lag, 0);
            Checks.is("lag " + lag + ", on their way", room.room(8), lag);
            Checks.is("lag " + lag + ", came", room.ofMast(0, 8), 1);
            room.pass(1);
            track(room, 0, 52, 54, 2, 10, 20, 7, 2, 1, 1, lag, 0);
        }
    }

    private static void wireWhenThePlotIsDue() {
        Plotroom room = withMast(1);
        room.flight(true, 50, 50, 0, 0, 5, 7);
        room.wire(0, true);
        room.pass(1);
        Checks.is("made with the wire cut", room.ofMast(0, 7), 1);
        Checks.is("it is on its way", room.room(8), 1);
        Checks.is("not lost yet", room.ofMast(0, 9), 0);
        room.wire(0, false);
        room.pass(1);
        Checks.is("it came as the wire was whole", room.ofMast(0, 8), 1);
        room.wire(0, true);
        room.pass(1);
        Checks.is("one made with the wire whole is lost", room.ofMast(0, 9), 1);
        Checks.is("no other one came", room.ofMast(0, 8), 1);
        track(room, 0, 50, 50, 1, 0, 0, 7, 1);

        Plotroom now = withMast(0);
        now.flight(true, 50, 50, 0, 0, 5, 7);
        now.wire(0, true);
        now.pass(1);
        Checks.is("lost in the same minute", now.ofMast(0, 9), 1);
        Checks.is("none on its way", now.room(8), 0);
        Checks.is("no track", now.room(4), 0);
        Checks.is("not lost for want of a track", now.room(9), 0);
    }

    private static void wireOfItsOwnMast() {
        Plotroom room = withMast(0);
        room.mast(100, 100, 150, 0, 0, 1);
        room.flight(true, 50, 50, 0, 0, 5, 7);
        room.wire(0, true);
        room.pass(2);
        Checks.is("lost on the one", room.ofMast(0, 9), 2);
        Checks.is("came on the other", room.ofMast(1, 8), 1);
        Checks.is("lost on the other", room.ofMast(1, 9), 0);
        track(room, 0, 50, 50, 1, 0, 0, 7, 1);
    }

    /** 15 tracks, then the sixteenth, then a plot that is lost; one that fits a track comes still. */
    private static void sixteenTracks() {
        Plotroom room = withMast(0);
        room.gate(1);
        for (int i = 0; i < 8; i++) {
            room.flight(true, 20 + 20 * i, 20, 0, 3, 5, 1);
        }
        room.pass(1);
        Checks.is("8 tracks", room.room(4), 8);
        room.bend(7, 0, 0);
        room.pass(1);
        Checks.is("15 tracks", room.room(4), 15);
        for (int i = 1; i < 7; i++) {
            room.bend(i, 0, 0);
        }
        room.pass(1);
        Checks.is("16 tracks", room.room(4), 16);
        Checks.is("none is lost for want of one", room.room(9), 0);
        track(room, 15, 20, 29, 3, 0, 0, 1, 1);
        room.pass(1);
        Checks.is("16 tracks at most", room.room(4), 16);
        Checks.is("one is lost for want of one", room.room(9), 1);
        Checks.is("it came", room.ofMast(0, 8), 32);
        Checks.is("the others went into theirs", room.ofTrack(14, 6), 3);
        Checks.is("sound", room.isSound(), true);
        room.wire(0, true);
        room.pass(7);
        Checks.is("none is live", room.room(5), 0);
        room.wire(0, false);
        room.pass(1);
        Checks.is("those that are lost count", room.room(4), 16);
        Checks.is("all are lost for want of one", room.room(9), 9);
        Checks.is("none is live again", room.room(5), 0);
    }

    private static int tracksApart(int gate, int byX, int byY) {
        Plotroom room = withMast(0);
        if (gate > 0) {
            room.gate(gate);
        }
        room.flight(true, 100, 100, 0, 0, 5, 1);
        room.flight(true, 100 + byX, 100 + byY, 0, 0, 5, 1);
        room.pass(1);
        return room.room(4);
    }

    private static void gateIsCounted() {
        Checks.is("12 at first, at 12 by x", tracksApart(0, 12, 0), 1);
        Checks.is("12 at first, at 13 by x", tracksApart(0, 13, 0), 2);
        Checks.is("12 at first, at 12 by y", tracksApart(0, 0, -12), 1);
        Checks.is("12 at first, at 13 by y", tracksApart(0, 0, -13), 2);
        Checks.is("12 at first, at 8 and 9", tracksApart(0, 8, 9), 2);
        Checks.is("12 at first, at 8 and 8", tracksApart(0, 8, 8), 1);
        Checks.is("1, at 1", tracksApart(1, -1, 0), 1);
        Checks.is("1, at 1 by both", tracksApart(1, 1, 1), 2);
        Checks.is("1, at 2", tracksApart(1, 0, 2), 2);
        Checks.is("40, at 40", tracksApart(40, 40, 0), 1);
        Checks.is("40, at 41", tracksApart(40, 41, 0), 2);
        Checks.is("40, at 24 and 32", tracksApart(40, 24, 32), 1);
        Checks.is("40, at 24 and 33", tracksApart(40, 24, 33), 2);
    }

    /** It is by where the track should be, not by its place: with course 50 it should be 5 farther each minute. */
    private static void gateOfWhereItShouldBe() {
        for (int bend = 2; bend <= 9; bend++) {
            Plotroom room = withMast(0);
            room.gate(3);
            room.flight(true, 100, 97, 0, 3, 5, 1);
            room.pass(2);
            Checks.is("course by y", room.ofTrack(0, 4), 30);
            room.bend(0, 0, bend);
            room.pass(1);
            Checks.is("tracks after a bend to " + bend, room.room(4), bend <= 6 ? 1 : 2);
        }
        for (int bend = -2; bend <= 2; bend++) {
            Plotroom room = withMast(0);
            room.gate(3);
            room.flight(true, 100, 97, 0, 3, 5, 1);
            room.pass(2);
            room.bend(0, bend, 0);
            room.pass(1);
            Checks.is("tracks after a bend to " + bend + " by x", room.room(4), bend == 0 ? 1 : 2);
        }
    }

    /** Two tracks 16 apart, and a plot between them. */
    private static Plotroom between(int x) {
        Plotroom room = withMast(0);
        room.flight(true, 100, 100, 0, 0, 5, 1);
        room.flight(true, 116, 100, 0, 0, 5, 1);
        room.flight(true, x, 100, 0, 0, 5, 7);
        room.pass(1);
        Checks.is("two tracks", room.room(4), 2);
        return room;
    }

    private static void nearestThenSmallest() {
        Checks.is("as near to both", between(108).ofTrack(0, 6), 2);
        Checks.is("nearer to the first one", between(107).ofTrack(0, 6), 2);
        Checks.is("nearer to the second one", between(109).ofTrack(1, 6), 2);
        track(between(108), 0, 104, 100, 1, 0, 0, 7, 2);
        track(between(108), 1, 116, 100, 1, 0, 0, 1, 1);
        track(between(109), 1, 112, 100, 1, 0, 0, 7, 2);
    }

    private static void tracksThatAreNewerThanThePlot() {
        Plotroom room = withMast(1);
        room.flight(true, 50, 50, 0, 0, 5, 3);
        room.mast(100, 100, 150, 0, 0, 0);
        room.pass(1);
        track(room, 0, 50, 50, 1, 0, 0, 3, 1);
        room.wire(1, true);
        room.pass(1);
        track(room, 0, 50, 50, 1, 0, 0, 3, 2);
        Checks.is("a plot as old as the track goes into it", room.room(4), 1);
        room.wire(1, false);
        room.wire(0, true);
        room.pass(1);
        track(room, 0, 50, 50, 3, 0, 0, 3, 3);
        room.wire(1, true);
        room.wire(0, false);
        room.pass(1);
        Checks.is("as old again", room.room(4), 1);
        track(room, 0, 50, 50, 3, 0, 0, 3, 4);

        Plotroom late = withMast(2);
        late.mast(100, 100, 150, 0, 0, 0);
        late.flight(true, 50, 50, 0, 0, 5, 3);
        late.pass(2);
        late.wire(1, true);
        late.pass(1);
        Checks.is("a plot that is older makes another one", late.room(4), 2);
        track(late, 0, 50, 50, 2, 0, 0, 3, 2);
        track(late, 1, 50, 50, 1, 0, 0, 3, 1);
        late.pass(1);
        Checks.is("of both that are old enough the smaller number", late.ofTrack(0, 6), 3);
        track(late, 1, 50, 50, 1, 0, 0, 3, 1);
    }

    private static void lostTracksTakeNoPlots() {
        for (int minutes = 6; minutes <= 7; minutes++) {
            Plotroom room = withMast(0);
            room.flight(true, 50, 50, 0, 0, 5, 3);
            room.pass(1);
            room.wire(0, true);
            room.pass(minutes);
            room.wire(0, false);
            room.pass(1);
            Checks.is("tracks after a gap of " + minutes, room.room(4), minutes - 5);
            Checks.is("hits after a gap of " + minutes, room.ofTrack(0, 6), minutes == 6 ? 2 : 1);
        }
    }

    /** The first course is NOW itself, a later one is half of NOW and that ahead. */
    private static void courseRoundsTowardZero() {
        int[][] due = {{1, 1, 3, 3}, {-1, -1, -3, -3}, {2, -2, 6, -6}};
        for (int[] d : due) {
            Plotroom room = withMast(0);
            room.flight(true, 50, 50, 0, 0, 5, 3);
            room.pass(1);
            room.wire(0, true);
            room.pass(1);
            room.bend(0, d[0], d[1]);
            room.pass(1);
            room.bend(0, 0, 0);
            room.wire(0, false);
            room.pass(1);
            track(room, 0, 50 + d[0], 50 + d[1], 4, d[2], d[3], 3, 2);
            room.pass(1);
            track(room, 0, 50 + d[0], 50 + d[1], 5, d[2] / 2, d[3] / 2, 3, 3);
        }
        Plotroom still = withMast(0);
        still.flight(true, 50, 50, 0, 0, 5, 3);
        still.pass(2);
        still.bend(0, 1, -1);
        still.pass(1);
        track(still, 0, 51, 49, 3, 5, -5, 3, 3);
        Checks.is("a course of 0 and 0 is one", still.ofTrack(0, 3), 5);
    }

    private static void sameMinuteHalves() {
        Plotroom room = withMast(0);
        room.flight(true, 100, 101, 0, 0, 5, 3);
        room.flight(true, 105, 104, 0, 0, 5, 8);
        room.pass(1);
        track(room, 0, 102, 102, 1, 0, 0, 8, 2);
        Checks.is("one track", room.room(4), 1);
        room.pass(1);
        track(room, 0, 102, 102, 2, -20, -10, 8, 4);
    }

    private static void whereIsHeld() {
        Plotroom room = withMast(0);
        room.flight(true, 15, 185, -3, 3, 5, 3);
        room.flight(true, 185, 15, 3, -3, 5, 3);
        room.pass(2);
        for (int track = 0; track < 2; track++) {
            int[] low = {9, 6, 3, 0, 0, 0};
            int[] high = {191, 194, 197, 199, 199, 199};
            for (int i = 0; i < low.length; i++) {
                boolean isLow = track == 0;
                Checks.is("x of " + track + " in " + i, room.where(track, 2 + i, false), isLow ? low[i] : high[i]);
                Checks.is("y of " + track + " in " + i, room.where(track, 2 + i, true), isLow ? high[i] : low[i]);
            }
        }
    }

    private static void lostAfterSix() {
        Plotroom room = withMast(0);
        room.flight(true, 50, 50, 0, 0, 5, 3);
        room.pass(3);
        room.wire(0, true);
        for (int age = 1; age <= 8; age++) {
            room.pass(1);
            Checks.is("live at " + age, room.ofTrack(0, 7), age <= 6 ? 1 : 0);
            Checks.is("age", room.ofTrack(0, 9), age);
            Checks.is("live ones at " + age, room.room(5), age <= 6 ? 1 : 0);
        }
        track(room, 0, 50, 50, 3, 0, 0, 3, 3, 0, 2);
    }

    private static void lostAtOnceByLag() {
        Plotroom room = withMast(5);
        room.flight(true, 50, 50, 0, 0, 5, 3);
        room.pass(6);
        room.wire(0, true);
        track(room, 0, 50, 50, 1, 0, 0, 3, 1, 1, 1, 5);
        room.pass(1);
        Checks.is("live at 6", room.ofTrack(0, 7), 1);
        room.pass(1);
        Checks.is("lost at 7", room.ofTrack(0, 7), 0);
    }

    /** A track at 50, 50 that was seen last in minute 10, in minute 12. */
    private static Plotroom seenAtTen() {
        Plotroom room = withMast(0);
        room.flight(true, 50, 50, 0, 0, 5, 3);
        room.pass(10);
        room.wire(0, true);
        room.pass(2);
        return room;
    }

    private static int kindWithPlan(int from, int to, int x, int y, int radius) {
        Plotroom room = seenAtTen();
        room.plan(from, to, x, y, radius);
        int kind = room.ofTrack(0, 8);
        Checks.is("friends", room.room(6), kind == 0 ? 1 : 0);
        Checks.is("hostile ones", room.room(7), kind == 2 ? 1 : 0);
        return kind;
    }

    private static void planMinutesAreCounted() {
        Checks.is("to 9", kindWithPlan(0, 9, 50, 50, 5), 2);
        Checks.is("to 10", kindWithPlan(0, 10, 50, 50, 5), 0);
        Checks.is("10 alone", kindWithPlan(10, 10, 50, 50, 5), 0);
        Checks.is("from 10", kindWithPlan(10, 1000, 50, 50, 5), 0);
        Checks.is("from 11", kindWithPlan(11, 1000, 50, 50, 5), 2);
        Checks.is("12 alone, which is now", kindWithPlan(12, 12, 50, 50, 5), 2);
        Checks.is("9 alone", kindWithPlan(9, 9, 50, 50, 5), 2);
        Checks.is("0 to 1000", kindWithPlan(0, 1000, 50, 50, 5), 0);
    }

    private static void planRadiusIsCounted() {
        Checks.is("radius 1 at 1", kindWithPlan(0, 99, 51, 50, 1), 0);
        Checks.is("radius 1 at 1 by both", kindWithPlan(0, 99, 51, 51, 1), 2);
        Checks.is("radius 1 at 2", kindWithPlan(0, 99, 50, 48, 1), 2);
        Checks.is("radius 60 at 60", kindWithPlan(0, 99, 110, 50, 60), 0);
        Checks.is("radius 60 at 61", kindWithPlan(0, 99, 50, 111, 60), 2);
        Checks.is("radius 60 at 36 and 48", kindWithPlan(0, 99, 86, 98, 60), 0);
        Checks.is("radius 60 at 36 and 49", kindWithPlan(0, 99, 86, 99, 60), 2);
    }

    private static void planOfTrackMinute() {
        Plotroom room = seenAtTen();
        room.plan(9, 9, 50, 50, 9);
        room.plan(10, 10, 90, 90, 9);
        Checks.is("one by minute and another one by place", room.ofTrack(0, 8), 2);
        room.plan(10, 10, 50, 50, 9);
        Checks.is("the last plan", room.ofTrack(0, 8), 0);
        room.wire(0, false);
        room.pass(1);
        Checks.is("seen in a minute without a plan", room.ofTrack(0, 8), 2);
        Plotroom two = withMast(0);
        two.flight(true, 50, 50, 0, 0, 5, 3);
        two.plan(1, 1, 50, 50, 1);
        two.pass(1);
        Checks.is("a friend with one hit", two.ofTrack(0, 8), 0);
        two.pass(1);
        Checks.is("unknown then", two.ofTrack(0, 8), 1);
    }

    /** Squadron 0 stands at its station, up, as its own track does; track 1 is byX and byY away from there. */
    private static int kindBeside(int byX, int byY, int state) {
        Plotroom room = withMast(0);
        room.gate(4);
        room.flight(false, 100, 100, 0, 0, 5, 3);
        room.flight(false, 100 + byX, 100 + byY, 0, 0, 5, 3);
        room.station(100, 100);
        room.squadron(0, 6, 10, 50, 2);
        room.pass(3);
        if (state > 0) {
            room.scramble(0, 0);
        }
        if (state > 1) {
            room.pass(2);
        }
        if (state > 2) {
            room.back(0);
        }
        if (state > 3) {
            room.pass(1);
        }
        Checks.is("state", room.ofSquadron(0, 2), state);
        return room.ofTrack(1, 8);
    }

    private static void friendlySquadron() {
        for (int state = 0; state <= 4; state++) {
            boolean isInAir = state == 2 || state == 3;
            Checks.is("at 8 by x, state " + state, kindBeside(8, 0, state), isInAir ? 0 : 2);
            Checks.is("at 8 by y, state " + state, kindBeside(0, -8, state), isInAir ? 0 : 2);
            Checks.is("at 9 by x, state " + state, kindBeside(-9, 0, state), 2);
            Checks.is("at 9 by y, state " + state, kindBeside(0, 9, state), 2);
            Checks.is("at 5 and 6, state " + state, kindBeside(5, 6, state), isInAir ? 0 : 2);
            Checks.is("at 6 and 6, state " + state, kindBeside(6, 6, state), 2);
        }
    }

    /**
     * In minute 4 track 1 was at 97, 110 and should be at 100, 110 (or with x for y, if isTurned);
     * squadron 0 is up at the given place.
     */
    private static Plotroom movedOn(boolean isTurned, int x, int y) {
        Plotroom room = withMast(0);
        room.flight(false, 100, 100, 0, 0, 5, 3);
        room.flight(true, isTurned ? 110 : 88, isTurned ? 88 : 110, isTurned ? 0 : 3, isTurned ? 3 : 0, 5, 3);
        room.station(isTurned ? y : x, isTurned ? x : y);
        room.squadron(0, 6, 10, 50, 1);
        room.pass(3);
        room.wire(0, true);
        room.scramble(0, 0);
        room.pass(1);
        Checks.is("its place", room.ofTrack(1, isTurned ? 1 : 0), 97);
        Checks.is("where it should be", room.where(1, 4, isTurned), 100);
        Checks.is("up", room.ofSquadron(0, 2), 2);
        return room;
    }

    private static void friendByItsPlace() {
        for (boolean isTurned : new boolean[] {false, true}) {
            Checks.is("8 behind its place", movedOn(isTurned, 89, 110).ofTrack(1, 8), 0);
            Checks.is("8 ahead of its place", movedOn(isTurned, 105, 110).ofTrack(1, 8), 0);
            Checks.is("9 ahead of its place", movedOn(isTurned, 106, 110).ofTrack(1, 8), 2);
            Plotroom room = movedOn(isTurned, 20, 20);
            room.plan(0, 9, isTurned ? 110 : 100, isTurned ? 100 : 110, 2);
            Checks.is("a plan where it should be", room.ofTrack(1, 8), 2);
            room.plan(0, 9, isTurned ? 110 : 97, isTurned ? 97 : 110, 2);
            Checks.is("a plan at its place", room.ofTrack(1, 8), 0);
        }
    }

    private static void hostileFromThreeHits() {
        Plotroom room = withMast(0);
        room.flight(true, 50, 50, 0, 0, 5, 3);
        for (int hits = 1; hits <= 4; hits++) {
            room.pass(1);
            Checks.is("hits", room.ofTrack(0, 6), hits);
            Checks.is("kind with " + hits, room.ofTrack(0, 8), hits <= 2 ? 1 : 2);
        }
    }

    private SkyEdgesTest() {
    }
}
