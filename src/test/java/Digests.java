/** The checksum of promise 35, reckoned from the answers of the other calls. */
final class Digests {
    static long of(Plotroom room) {
        long d = 7001;
        for (int what = 0; what <= 20; what++) {
            d = d * 31 + room.room(what);
        }
        int flights = size(i -> room.ofFlight(i, 0));
        int masts = size(i -> room.ofMast(i, 0));
        int squadrons = size(i -> room.ofSquadron(i, 0));
        int towns = size(i -> room.siren(i));
        int tracks = room.room(4);
        for (int i = 0; i < flights; i++) {
            for (int what : new int[] {0, 1, 5, 6}) {
                d = d * 31 + room.ofFlight(i, what);
            }
        }
        for (int i = 0; i < masts; i++) {
            for (int what = 6; what <= 9; what++) {
                d = d * 31 + room.ofMast(i, what);
            }
        }
        for (int i = 0; i < tracks; i++) {
            for (int what = 0; what <= 10; what++) {
                d = d * 31 + room.ofTrack(i, what);
            }
            d = d * 31 + room.truth(i);
        }
        for (int i = 0; i < squadrons; i++) {
            for (int what = 1; what <= 9; what++) {
                d = d * 31 + room.ofSquadron(i, what);
            }
        }
        for (int i = 0; i < tracks; i++) {
            d = d * 31 + room.best(i);
        }
        for (int i = 0; i < towns; i++) {
            d = d * 31 + (room.siren(i) ? 1 : 0);
            d = d * 31 + room.wouldSound(i);
        }
        d = d * 31 + (long) (64 * room.seen());
        return d * 31 + (room.isSound() ? 1 : 0);
    }

    private interface Numbered {
        void ask(int number);
    }

    private static int size(Numbered asked) {
        int size = 0;
        while (true) {
            try {
                asked.ask(size);
            } catch (IndexOutOfBoundsException e) {
                return size;
            }
            size++;
        }
    }

    private Digests() {
    }
}
