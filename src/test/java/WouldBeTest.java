/** Promises 30 to 35: what would be. */
public final class WouldBeTest {
    public static void main(String[] args) {
        meet();
        meetSouthward();
        meetLast();
        best();
        wouldWin();
        wouldSound();
        isSound();
        digest();
        Checks.end();
    }

    /** A room with a flight at 100, 100 that has come over its track twice, so that the track has its course. */
    private static Plotroom withTrack(int eastward) {
        Plotroom room = new Plotroom();
        room.mast(100, 100, 150, 0, 0, 0);
        room.flight(false, 100 - 2 * eastward, 100, eastward, 0, 5, 20);
        room.pass(2);
        return room;
    }

    private static void meet() {
        Plotroom room = withTrack(0);
        room.station(100, 130);
        room.station(0, 0);
        room.squadron(0, 5, 10, 50, 4);
        room.squadron(0, 5, 11, 50, 15);
        room.squadron(1, 5, 5, 50, 2);
        room.squadron(0, 5, 9, 50, 4);
        Checks.is("3 in the air", room.meet(0, 0), 7);
        Checks.is("33 of 30", room.meet(1, 0), 18);
        Checks.is("150 by 30 in the air", room.meet(2, 0), 2 + 29);
        Checks.is("27 of 30", room.meet(3, 0), 8);
        room.scramble(0, 0);
        room.pass(1);
        Checks.is("one that is ordered", room.meet(0, 0), 7);
        room.pass(3);
        Checks.is("one that is up", room.meet(0, 0), 3);
        room.pass(1);
        Checks.is("one that is on its way", room.meet(0, 0), 2);
        room.back(0);
        room.pass(1);
        Checks.is("turning", room.ofSquadron(0, 2), 4);
        Checks.is("one that is turning", room.meet(0, 0), 7);
        Checks.refuses(room, "meet(-1, 0)", Checks.INDEX, () -> room.meet(-1, 0));
        Checks.refuses(room, "meet(4, 0)", Checks.INDEX, () -> room.meet(4, 0));
        Checks.refuses(room, "meet(0, -1)", Checks.INDEX, () -> room.meet(0, -1));
        Checks.refuses(room, "meet(0, 1)", Checks.INDEX, () -> room.meet(0, 1));

        Plotroom moving = withTrack(5);
        moving.station(160, 100);
        moving.station(70, 100);
        moving.squadron(0, 5, 10, 50, 3);
        moving.squadron(1, 5, 10, 50, 1);
        moving.squadron(1, 5, 5, 50, 1);
        Checks.is("60 by 15 of one that comes, 3 of it waited", moving.meet(0, 0), 6);
        Checks.is("35 by 5 of one that goes", moving.meet(1, 0), 8);
        Checks.is("one as fast as it, till it is held at 199", moving.meet(2, 0), 1 + 26);
        moving.wire(0, true);
        moving.pass(8);
        Checks.is("lost", moving.ofTrack(0, 7), 0);
        Checks.is("of one that is lost", moving.meet(0, 0), 4);
    }

    private static void meetSouthward() {
        Plotroom room = new Plotroom();
        room.mast(100, 100, 150, 0, 0, 0);
        room.flight(true, 100, 10, 0, 4, 5, 20);
        room.station(100, 50);
        room.squadron(0, 5, 7, 10, 2);
        room.squadron(0, 5, 5, 10, 10);
        room.pass(2);
        Checks.is("24 by 11 of one that comes, 2 of it waited", room.meet(0, 0), 5);
        Checks.is("8 by 1 of one that has passed, 10 of it waited", room.meet(1, 0), 18);
        Checks.is("the first one alone has fuel for it", room.best(0), 0);
        room.squadron(0, 1, 20, 10, 2);
        Checks.is("24 by 24 of one that comes, 2 of it waited", room.meet(2, 0), 3);
        Checks.is("the third one is there sooner", room.best(0), 2);
    }

    private static void meetLast() {
        Plotroom room = new Plotroom();
        room.mast(100, 100, 150, 0, 0, 0);
        room.flight(false, 100, 150, 0, 0, 5, 5);
        room.flight(false, 100, 48, 0, 0, 5, 5);
        room.station(100, 0);
        room.station(100, 199);
        room.squadron(0, 1, 5, 99, 1);
        room.squadron(1, 1, 5, 99, 1);
        room.pass(1);
        Checks.is("150 by 5 in the air", room.meet(0, 0), 31);
        Checks.is("151 by 5 in the air", room.meet(1, 1), -1);

        Plotroom far = withTrack(0);
        far.station(0, 199);
        far.squadron(0, 5, 5, 50, 2);
        far.flight(false, 199, 0, 0, 0, 5, 5);
        far.pass(1);
        Checks.is("281 by 5 in the air", far.meet(0, 1), -1);
        far.squadron(0, 5, 20, 50, 2);
        Checks.is("281 by 20 in the air", far.meet(1, 1), 17);
    }

    private static void best() {
        Plotroom room = withTrack(0);
        room.station(100, 130);
        Checks.refuses(room, "best(-1)", Checks.INDEX, () -> room.best(-1));
        Checks.refuses(room, "best(1)", Checks.INDEX, () -> room.best(1));
        Checks.is("no squadrons", room.best(0), -1);
        room.squadron(0, 5, 10, 10, 6);
        Checks.is("twice 3 within 10 less 3", room.best(0), 0);
        room.squadron(0, 12, 9, 10, 1);
        Checks.is("twice 4 not within 10 less 3", room.best(0), 0);
        room.squadron(0, 4, 9, 11, 5);
        Checks.is("as soon, with fewer machines", room.best(0), 0);
        room.squadron(0, 6, 9, 11, 5);
        Checks.is("as soon, with more machines", room.best(0), 3);
        room.squadron(0, 6, 9, 11, 5);
        Checks.is("as soon, with as many", room.best(0), 3);
        room.squadron(0, 1, 9, 11, 4);
        Checks.is("sooner", room.best(0), 5);
        room.scramble(5, 0);
        Checks.is("not one that is ordered", room.best(0), 3);
        room.back(5);
        Checks.is("grounded again", room.best(0), 5);
        room.wire(0, true);
        room.pass(8);
        Checks.is("of one that is lost", room.best(0), 5);
    }

    private static void wouldWin() {
        Plotroom room = new Plotroom();
        room.station(0, 0);
        room.squadron(0, 12, 5, 10, 1);
        room.squadron(0, 3, 5, 10, 1);
        room.flight(false, 199, 199, 0, 0, 1, 99);
        room.flight(true, 0, 199, -1, 0, 1, 5);
        int[] due = {3, 4, 6, 7, 9, 10, 3};
        for (int lot = 0; lot < due.length; lot++) {
            Checks.is("wouldWin(0, 0, " + lot + ")", room.wouldWin(0, 0, lot), due[lot]);
        }
        Checks.is("240", room.wouldWin(0, 0, 240), 3);
        Checks.is("239", room.wouldWin(0, 0, 239), 10);
        Checks.is("3 machines", room.wouldWin(1, 0, 5), 2);
        Checks.is("no more than there are", room.wouldWin(0, 1, 5), 5);
        room.pass(1);
        Checks.is("of one that is gone", room.wouldWin(0, 1, 1), 4);
        Checks.is("no draws", room.room(19), 0);
        Checks.refuses(room, "wouldWin(-1, 0, 0)", Checks.INDEX, () -> room.wouldWin(-1, 0, 0));
        Checks.refuses(room, "wouldWin(2, 0, 241)", Checks.INDEX, () -> room.wouldWin(2, 0, 241));
        Checks.refuses(room, "wouldWin(0, -1, 0)", Checks.INDEX, () -> room.wouldWin(0, -1, 0));
        Checks.refuses(room, "wouldWin(0, 2, 241)", Checks.INDEX, () -> room.wouldWin(0, 2, 241));
        Checks.refuses(room, "wouldWin(0, 0, -1)", Checks.ARGUMENT, () -> room.wouldWin(0, 0, -1));
        Checks.refuses(room, "wouldWin(0, 0, 241)", Checks.ARGUMENT, () -> room.wouldWin(0, 0, 241));
    }

    private static void wouldSound() {
        Plotroom room = new Plotroom();
        room.mast(100, 100, 150, 0, 0, 0);
        room.flight(true, 0, 100, 4, 0, 5, 19);
        room.town(174, 100, 9);
        room.town(175, 100, 9);
        room.town(12, 110, 9);
        room.town(54, 100, 9);
        room.town(55, 100, 9);
        room.town(12, 111, 9);
        room.pass(2);
        Checks.is("two hits are not hostile", room.wouldSound(2), -1);
        room.pass(1);
        Checks.is("near in 38", room.wouldSound(0), 30);
        Checks.is("near in 39", room.wouldSound(1), -1);
        Checks.is("near now", room.wouldSound(2), 0);
        Checks.is("near in 8", room.wouldSound(3), 0);
        Checks.is("near in 9", room.wouldSound(4), 1);
        Checks.is("never near", room.wouldSound(5), -1);
        Checks.is("it does not sound yet", room.siren(4), false);
        room.wire(0, true);
        room.pass(1);
        Checks.is("it sounds a minute later", room.siren(4), true);
        Checks.is("a minute nearer", room.wouldSound(1), 30);
        room.pass(6);
        Checks.is("lost", room.wouldSound(1), -1);
        room.wire(0, false);
        room.flight(false, 12, 199, 0, -4, 5, 19);
        room.flight(false, 150, 10, 0, 0, 5, 19);
        room.pass(3);
        Checks.is("66 by 4 of one that comes, less 8, and one that never comes", room.wouldSound(5), 9);
        Checks.refuses(room, "wouldSound(6)", Checks.INDEX, () -> room.wouldSound(6));
        Checks.refuses(room, "wouldSound(-1)", Checks.INDEX, () -> room.wouldSound(-1));
    }

    private static void isSound() {
        Plotroom room = withTrack(0);
        room.station(100, 100);
        room.squadron(0, 12, 10, 10, 1);
        room.mast(100, 100, 20, 0, 9, 5);
        room.flight(true, 100, 104, 0, 0, 5, 99);
        room.gun(110, 110, 9);
        room.scramble(0, 0);
        for (int i = 0; i < 40; i++) {
            room.pass(1);
            if (i == 20) {
                room.wire(0, true);
                room.wire(1, true);
            }
            Checks.is("sound in minute " + room.room(0), room.isSound(), true);
        }
    }

    private static void digest() {
        Plotroom room = withTrack(3);
        room.station(60, 60);
        room.squadron(0, 12, 10, 30, 1);
        room.town(120, 100, 4);
        room.flight(true, 70, 60, 0, 0, 5, 99);
        Checks.is("digest ahead", room.digest(), Digests.of(room));
        room.pass(1);
        room.scramble(0, 1);
        room.call();
        for (int minutes = 1; minutes <= 4; minutes++) {
            room.pass(minutes * minutes);
            Checks.is("digest in minute " + room.room(0), room.digest(), Digests.of(room));
        }
    }

    private WouldBeTest() {
    }
}
