/**
 * Long runs of calls, wrong ones among them, by a row of numbers that is always the same: no call throws anything
 * but what the document names, one that throws or only asks changes nothing, and the room stays sound.
 */
public final class RandomRunsTest {
    private static final int[] WILD = {Integer.MIN_VALUE, -1000000, -1, 241, 1201, 1000000, Integer.MAX_VALUE};

    private long seed;
    private Plotroom room = new Plotroom();

    private RandomRunsTest(long seed) {
        this.seed = seed;
    }

    public static void main(String[] args) {
        for (int run = 1; run <= 300; run++) {
            new RandomRunsTest(run).run(run);
        }
        Checks.end();
    }

    /** Each call and the digest behind it: an object is promised to answer 512 calls. */
    private void run(int run) {
        setUp();
        long before = room.digest();
        for (int i = 0; i < 230; i++) {
            int kind = kind();
            String name = "run " + run + ", call " + i + " of kind " + kind;
            Class<?> thrown = Checks.thrownBy(() -> call(kind));
            boolean isNamed = thrown == null || thrown == Checks.INDEX || thrown == Checks.ARGUMENT || thrown == Checks.STATE;
            Checks.note(isNamed, name + " threw " + thrown);
            long now = room.digest();
            boolean isStill = thrown != null || kind >= 17;
            Checks.note(!isStill || now == before, name + " changed something");
            before = now;
        }
        Checks.is("run " + run + ", isSound()", room.isSound(), true);
    }

    /** Minutes and orders more often than the rest, so that there is something to fight. */
    private int kind() {
        int chance = next(20);
        if (chance < 7) {
            return 15;
        }
        return chance < 11 ? 11 + next(4) : next(34);
    }

    private void setUp() {
        for (int i = 0; i < 3; i++) {
            room.mast(middle(), middle(), 50 + next(100), next(3), next(5), next(4));
            room.station(middle(), middle());
            room.town(middle(), middle(), 1 + next(99));
            room.gun(middle(), middle(), 1 + next(20));
            room.flight(true, middle(), middle(), next(3) - 1, next(3) - 1, 3 + next(7), 1 + next(99));
            room.flight(next(3) > 0, middle(), middle(), 0, 0, 3 + next(7), 1 + next(99));
        }
        for (int i = 0; i < 5; i++) {
            room.squadron(next(3), 1 + next(12), 5 + next(16), 10 + next(90), 1 + next(8));
        }
    }

    private int middle() {
        return 50 + next(100);
    }

    private int next(int below) {
        seed = (seed * 25214903917L + 11) & ((1L << 48) - 1);
        return (int) ((seed >>> 17) % below);
    }

    private int in(int least, int most) {
        if (next(60) == 0) {
            return WILD[next(WILD.length)];
        }
        return least - (next(40) == 0 ? 1 : 0) + next(most - least + 1 + (next(40) == 0 ? 1 : 0));
    }

    private boolean either() {
        return next(2) == 0;
    }

    private void call(int kind) {
        switch (kind) {
            case 0: room.mast(in(0, 199), in(0, 199), in(1, 150), in(0, 9), in(0, 9), in(0, 5)); break;
            case 1: room.wire(in(0, 4), next(4) == 0); break;
            case 2: room.station(in(0, 199), in(0, 199)); break;
            case 3: room.squadron(in(0, 3), in(1, 12), in(5, 20), in(10, 99), in(1, 15)); break;
            case 4: room.gun(in(0, 199), in(0, 199), in(1, 20)); break;
            case 5: room.lend(in(0, 5), either()); break;
            case 6: room.town(in(0, 199), in(0, 199), in(1, 99)); break;
            case 7: room.gate(in(1, 40)); break;
            case 8: room.flight(next(3) > 0, in(0, 199), in(0, 199), in(-3, 3), in(-3, 3), in(1, 9), in(1, 99)); break;
            case 9: room.bend(in(0, 11), in(-9, 9), in(-9, 9)); break;
            case 10: room.plan(in(0, 1000), in(0, 1000), in(0, 199), in(0, 199), in(1, 60)); break;
            case 11: room.scramble(in(0, 7), in(0, 15)); break;
            case 12: room.lead(in(0, 7), in(0, 15)); break;
            case 13: room.back(in(0, 7)); break;
            case 14: room.reinforce(in(0, 7), in(1, 12)); break;
            case 15: room.pass(next(20) == 0 ? in(1, 60) : 1 + next(3)); break;
            case 16: room.call(); break;
            default: ask(kind); break;
        }
    }

    private void ask(int kind) {
        switch (kind) {
            case 17: room.ofFlight(in(0, 11), in(0, 7)); break;
            case 18: room.sees(in(0, 4), in(0, 11)); break;
            case 19: room.ofMast(in(0, 4), in(0, 9)); break;
            case 20: room.ofSquadron(in(0, 7), in(0, 9)); break;
            case 21: room.room(in(0, 20)); break;
            case 22: room.ofTrack(in(0, 15), in(0, 10)); break;
            case 23: room.where(in(0, 15), in(0, 1200), either()); break;
            case 24: room.truth(in(0, 15)); break;
            case 25: room.siren(in(0, 5)); break;
            case 26: room.table(in(0, 9)); break;
            case 27: room.seen(); break;
            case 28: room.meet(in(0, 7), in(0, 15)); break;
            case 29: room.best(in(0, 15)); break;
            case 30: room.wouldWin(in(0, 7), in(0, 11), in(0, 240)); break;
            case 31: room.wouldSound(in(0, 5)); break;
            case 32: room.isSound(); break;
            default: room.digest(); break;
        }
    }
}
