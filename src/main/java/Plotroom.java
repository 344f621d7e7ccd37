import java.util.ArrayList;

/**
 * A sky that is defended from a table: masts plot flights, plots become tracks,
 * squadrons are sent up against tracks, and all of it is known late and roughly.
 */
public final class Plotroom {

    private static final int NONE = -1;

    private static final int EDGE = 199;
    private static final int LAST_MINUTE = 1000;
    private static final int LAST_WHERE = 1200;

    private static final int MAX_MASTS = 5;
    private static final int MAX_STATIONS = 4;
    private static final int MAX_SQUADRONS = 8;
    private static final int MAX_GUNS = 6;
    private static final int MAX_TOWNS = 6;
    private static final int MAX_FLIGHTS = 12;
    private static final int MAX_PLANS = 10;
    private static final int MAX_TRACKS = 16;

    private static final int MAX_MACHINES = 12;
    private static final int MAX_TALKS = 3;
    private static final int TURN_MINUTES = 12;
    private static final int MEET_MINUTES = 30;
    private static final int TRACK_MINUTES = 6;
    private static final int BEND_MINUTES = 99;

    private static final int FIGHT_RADIUS = 6;
    private static final int FRIEND_RADIUS = 8;
    private static final int SEEN_RADIUS = 20;
    private static final int SIREN_RADIUS = 10;
    private static final int SIREN_MINUTES = 8;
    private static final int SOUND_MINUTES = 30;
    private static final int BOMB_RADIUS = 5;

    private static final int GROUNDED = 0;
    private static final int ORDERED = 1;
    private static final int UP = 2;
    private static final int HOME = 3;
    private static final int TURNING = 4;

    private static final int FRIEND = 0;
    private static final int UNKNOWN = 1;
    private static final int HOSTILE = 2;

    private final ArrayList<Mast> masts;
    private final ArrayList<Place> stations;
    private final ArrayList<Squadron> squadrons;
    private final ArrayList<Gun> guns;
    private final ArrayList<Town> towns;
    private final ArrayList<Flight> flights;
    private final ArrayList<Plan> plans;
    private final ArrayList<Track> tracks;

    /** The first plotsOnWay of these are on their way, in the order made; the others wait to be used again. */
    private final ArrayList<Plot> plots;
    private int plotsOnWay;

    private final Lots lots;
    private final Tally tally;
    private int minute;
    private int gateRadius;

    public Plotroom() {
        masts = new ArrayList<Mast>();
        stations = new ArrayList<Place>();
        squadrons = new ArrayList<Squadron>();
        guns = new ArrayList<Gun>();
        towns = new ArrayList<Town>();
        flights = new ArrayList<Flight>();
        plans = new ArrayList<Plan>();
        tracks = new ArrayList<Track>();
        plots = new ArrayList<Plot>();
        lots = new Lots();
        tally = new Tally();
        gateRadius = 12;
    }

    // ---- the coast

    public int mast(int x, int y, int range, int blind, int slip, int lag)
            throws IllegalArgumentException, IllegalStateException {
        if (!isPlace(x, y) || !isIn(range, 1, 150) || !isIn(blind, 0, 9) || !isIn(slip, 0, 9) || !isIn(lag, 0, 5)) {
            throw new IllegalArgumentException("no such mast can be");
        }
        if (masts.size() >= MAX_MASTS) {
            throw new IllegalStateException("no more masts");
        }
        masts.add(new Mast(x, y, range, blind, slip, lag));
        return masts.size() - 1;
    }

    public boolean wire(int mast, boolean isCut) throws IndexOutOfBoundsException {
        if (!isNumber(mast, masts.size())) {
            throw new IndexOutOfBoundsException("no such mast");
        }
        Mast told = masts.get(mast);
        boolean wasCut = told.isCut;
        told.isCut = isCut;
        return wasCut;
    }

    public int station(int x, int y) throws IllegalArgumentException, IllegalStateException {
        if (!isPlace(x, y)) {
            throw new IllegalArgumentException("no such place");
        }
        if (stations.size() >= MAX_STATIONS) {
            throw new IllegalStateException("no more stations");
        }
        stations.add(new Place(x, y));
        return stations.size() - 1;
    }

    public int squadron(int station, int machines, int speed, int fuel, int ready)
            throws IndexOutOfBoundsException, IllegalArgumentException, IllegalStateException {
        if (!isNumber(station, stations.size())) {
            throw new IndexOutOfBoundsException("no such station");
        }
        if (!isIn(machines, 1, MAX_MACHINES) || !isIn(speed, 5, 20) || !isIn(fuel, 10, 99) || !isIn(ready, 1, 15)) {
            throw new IllegalArgumentException("no such squadron can be");
        }
        if (squadrons.size() >= MAX_SQUADRONS) {
            throw new IllegalStateException("no more squadrons");
        }
        squadrons.add(new Squadron(station, stations.get(station), machines, speed, fuel, ready));
        return squadrons.size() - 1;
    }

    public int gun(int x, int y, int radius) throws IllegalArgumentException, IllegalStateException {
        if (!isPlace(x, y) || !isIn(radius, 1, 20)) {
            throw new IllegalArgumentException("no such gun can be");
        }
        if (guns.size() >= MAX_GUNS) {
            throw new IllegalStateException("no more guns");
        }
        guns.add(new Gun(x, y, radius));
        return guns.size() - 1;
    }

    public int lend(int gun, boolean isLent) throws IndexOutOfBoundsException {
        if (!isNumber(gun, guns.size())) {
            throw new IndexOutOfBoundsException("no such gun");
        }
        guns.get(gun).isLent = isLent;
        int lent = 0;
        for (int i = 0; i < guns.size(); i++) {
            if (guns.get(i).isLent) {
                lent++;
            }
        }
        return lent;
    }

    public int town(int x, int y, int people) throws IllegalArgumentException, IllegalStateException {
        if (!isPlace(x, y) || !isIn(people, 1, 99)) {
            throw new IllegalArgumentException("no such town can be");
        }
        if (towns.size() >= MAX_TOWNS) {
            throw new IllegalStateException("no more towns");
        }
        towns.add(new Town(x, y, people));
        return towns.size() - 1;
    }

    public int gate(int gate) throws IllegalArgumentException {
        if (!isIn(gate, 1, 40)) {
            throw new IllegalArgumentException("no such gate can be");
        }
        int before = gateRadius;
        gateRadius = gate;
        return before;
    }

    // ---- what comes, and orders

    public int flight(boolean isFoe, int x, int y, int eastward, int southward, int height, int count)
            throws IllegalArgumentException, IllegalStateException {
        if (!isPlace(x, y) || !isCourse(eastward, southward) || !isIn(height, 1, 9) || !isIn(count, 1, 99)) {
            throw new IllegalArgumentException("no such flight can be");
        }
        if (flights.size() >= MAX_FLIGHTS) {
            throw new IllegalStateException("no more flights");
        }
        flights.add(new Flight(isFoe, x, y, eastward, southward, height, count));
        return flights.size() - 1;
    }

    public int bend(int flight, int eastward, int southward)
            throws IndexOutOfBoundsException, IllegalArgumentException, IllegalStateException {
        if (!isNumber(flight, flights.size())) {
            throw new IndexOutOfBoundsException("no such flight");
        }
        if (!isCourse(eastward, southward)) {
            throw new IllegalArgumentException("no such course");
        }
        Flight told = flights.get(flight);
        if (!told.isUp) {
            throw new IllegalStateException("the flight is gone");
        }
        told.courseX = eastward;
        told.courseY = southward;
        return told.minutesOnMap();
    }

    public int plan(int from, int to, int x, int y, int radius)
            throws IllegalArgumentException, IllegalStateException {
        if (!isIn(from, 0, LAST_MINUTE) || !isIn(to, from, LAST_MINUTE) || !isPlace(x, y) || !isIn(radius, 1, 60)) {
            throw new IllegalArgumentException("no such plan can be");
        }
        if (plans.size() >= MAX_PLANS) {
            throw new IllegalStateException("no more plans");
        }
        plans.add(new Plan(from, to, x, y, radius));
        return plans.size();
    }

    public int scramble(int squadron, int track) throws IndexOutOfBoundsException, IllegalStateException {
        if (!isNumber(squadron, squadrons.size()) || !isNumber(track, tracks.size())) {
            throw new IndexOutOfBoundsException("no such squadron, or track");
        }
        Squadron sent = squadrons.get(squadron);
        Track target = tracks.get(track);
        if (!sent.canStart() || !target.isLive || countTalks() >= MAX_TALKS) {
            throw new IllegalStateException("the squadron can not be scrambled to that");
        }
        sent.order(target, minute + sent.ready);
        return sent.due;
    }

    public int lead(int squadron, int track) throws IndexOutOfBoundsException, IllegalStateException {
        if (!isNumber(squadron, squadrons.size()) || !isNumber(track, tracks.size())) {
            throw new IndexOutOfBoundsException("no such squadron, or track");
        }
        Squadron led = squadrons.get(squadron);
        Track target = tracks.get(track);
        if (!led.isTalkedTo() || !target.isLive) {
            throw new IllegalStateException("the squadron can not be led to that");
        }
        int before = led.targetNumber();
        led.target = target;
        return before;
    }

    public int back(int squadron) throws IndexOutOfBoundsException, IllegalStateException {
        if (!isNumber(squadron, squadrons.size())) {
            throw new IndexOutOfBoundsException("no such squadron");
        }
        Squadron called = squadrons.get(squadron);
        if (!called.isTalkedTo()) {
            throw new IllegalStateException("the squadron is neither ordered nor up");
        }
        if (called.state == ORDERED) {
            called.rest(GROUNDED, NONE);
        } else {
            called.headHome();
        }
        return called.state;
    }

    public int reinforce(int squadron, int machines)
            throws IndexOutOfBoundsException, IllegalArgumentException, IllegalStateException {
        if (!isNumber(squadron, squadrons.size())) {
            throw new IndexOutOfBoundsException("no such squadron");
        }
        if (!isIn(machines, 1, MAX_MACHINES)) {
            throw new IllegalArgumentException("no such number of machines");
        }
        Squadron joined = squadrons.get(squadron);
        if (joined.state != GROUNDED) {
            throw new IllegalStateException("the squadron is not grounded");
        }
        joined.machines = Math.min(MAX_MACHINES, joined.machines + machines);
        return joined.machines;
    }

    public int pass(int minutes) throws IllegalArgumentException, IllegalStateException {
        if (!isIn(minutes, 1, 60)) {
            throw new IllegalArgumentException("no such number of minutes");
        }
        if (minute + minutes > LAST_MINUTE) {
            throw new IllegalStateException("the day is over by then");
        }
        for (int i = 0; i < minutes; i++) {
            passOne();
        }
        return minute;
    }

    public int call() {
        tally.refused++;
        return tally.refused;
    }

    // ---- what is so

    public int ofFlight(int flight, int what) throws IndexOutOfBoundsException, IllegalArgumentException {
        if (!isNumber(flight, flights.size())) {
            throw new IndexOutOfBoundsException("no such flight");
        }
        if (!isIn(what, 0, 7)) {
            throw new IllegalArgumentException("nothing such is told of a flight");
        }
        return flights.get(flight).tell(what);
    }

    public boolean sees(int mast, int flight) throws IndexOutOfBoundsException {
        if (!isNumber(mast, masts.size()) || !isNumber(flight, flights.size())) {
            throw new IndexOutOfBoundsException("no such mast, or flight");
        }
        return masts.get(mast).canSee(flights.get(flight));
    }

    public int ofMast(int mast, int what) throws IndexOutOfBoundsException, IllegalArgumentException {
        if (!isNumber(mast, masts.size())) {
            throw new IndexOutOfBoundsException("no such mast");
        }
        if (!isIn(what, 0, 9)) {
            throw new IllegalArgumentException("nothing such is told of a mast");
        }
        return masts.get(mast).tell(what);
    }

    public int ofSquadron(int squadron, int what) throws IndexOutOfBoundsException, IllegalArgumentException {
        if (!isNumber(squadron, squadrons.size())) {
            throw new IndexOutOfBoundsException("no such squadron");
        }
        if (!isIn(what, 0, 9)) {
            throw new IllegalArgumentException("nothing such is told of a squadron");
        }
        return squadrons.get(squadron).tell(what);
    }

    public int room(int what) throws IllegalArgumentException {
        if (!isIn(what, 0, 20)) {
            throw new IllegalArgumentException("nothing such is told of the room");
        }
        return tellRoom(what);
    }

    // ---- the table

    public int ofTrack(int track, int what) throws IndexOutOfBoundsException, IllegalArgumentException {
        if (!isNumber(track, tracks.size())) {
            throw new IndexOutOfBoundsException("no such track");
        }
        if (!isIn(what, 0, 10)) {
            throw new IllegalArgumentException("nothing such is told of a track");
        }
        return tellTrack(tracks.get(track), what);
    }

    public int where(int track, int minute, boolean isY) throws IndexOutOfBoundsException, IllegalArgumentException {
        if (!isNumber(track, tracks.size())) {
            throw new IndexOutOfBoundsException("no such track");
        }
        Track asked = tracks.get(track);
        if (!isIn(minute, asked.minute, LAST_WHERE)) {
            throw new IllegalArgumentException("the track is not told for that minute");
        }
        return isY ? asked.yAt(minute) : asked.xAt(minute);
    }

    public int truth(int track) throws IndexOutOfBoundsException {
        if (!isNumber(track, tracks.size())) {
            throw new IndexOutOfBoundsException("no such track");
        }
        return flightBehind(tracks.get(track));
    }

    public boolean siren(int town) throws IndexOutOfBoundsException {
        if (!isNumber(town, towns.size())) {
            throw new IndexOutOfBoundsException("no such town");
        }
        return minutesToThreat(towns.get(town), SIREN_MINUTES) != NONE;
    }

    public String table(int row) throws IndexOutOfBoundsException {
        if (!isIn(row, 0, 9)) {
            throw new IndexOutOfBoundsException("no such row");
        }
        StringBuilder signs = new StringBuilder();
        for (int column = 0; column < 10; column++) {
            signs.append(signOf(countLiveIn(column, row)));
        }
        return signs.toString();
    }

    public double seen() {
        return partSeen();
    }

    // ---- what would be (nothing is changed)

    public int meet(int squadron, int track) throws IndexOutOfBoundsException {
        if (!isNumber(squadron, squadrons.size()) || !isNumber(track, tracks.size())) {
            throw new IndexOutOfBoundsException("no such squadron, or track");
        }
        Squadron asked = squadrons.get(squadron);
        int wait = asked.isInAir() ? 0 : asked.ready;
        int flown = asked.minutesToMeet(tracks.get(track), minute + wait);
        return flown == NONE ? NONE : wait + flown;
    }

    public int best(int track) throws IndexOutOfBoundsException {
        if (!isNumber(track, tracks.size())) {
            throw new IndexOutOfBoundsException("no such track");
        }
        return soonestSquadron(tracks.get(track));
    }

    public int wouldWin(int squadron, int flight, int lot)
            throws IndexOutOfBoundsException, IllegalArgumentException {
        if (!isNumber(squadron, squadrons.size()) || !isNumber(flight, flights.size())) {
            throw new IndexOutOfBoundsException("no such squadron, or flight");
        }
        if (!isIn(lot, 0, 240)) {
            throw new IllegalArgumentException("no such number is drawn");
        }
        return winOf(squadrons.get(squadron), flights.get(flight), lot);
    }

    public int wouldSound(int town) throws IndexOutOfBoundsException {
        if (!isNumber(town, towns.size())) {
            throw new IndexOutOfBoundsException("no such town");
        }
        return minutesToSiren(towns.get(town));
    }

    public boolean isSound() {
        return areSquadronsSound() && arePlotsSound() && tally.claims >= countWon() && arePlacesSound();
    }

    public long digest() {
        long d = 7001;
        for (int what = 0; what <= 20; what++) {
            d = d * 31 + tellRoom(what);
        }
        d = digestSky(d);
        d = digestTracks(d);
        for (int i = 0; i < squadrons.size(); i++) {
            for (int what = 1; what <= 9; what++) {
                d = d * 31 + squadrons.get(i).tell(what);
            }
        }
        for (int i = 0; i < tracks.size(); i++) {
            d = d * 31 + soonestSquadron(tracks.get(i));
        }
        for (int i = 0; i < towns.size(); i++) {
            Town town = towns.get(i);
            d = d * 31 + (minutesToThreat(town, SIREN_MINUTES) != NONE ? 1 : 0);
            d = d * 31 + minutesToSiren(town);
        }
        d = d * 31 + (long) (64 * partSeen());
        return d * 31 + (isSound() ? 1 : 0);
    }

    private long digestSky(long start) {
        long d = start;
        for (int i = 0; i < flights.size(); i++) {
            Flight flight = flights.get(i);
            d = d * 31 + flight.tell(0);
            d = d * 31 + flight.tell(1);
            d = d * 31 + flight.tell(5);
            d = d * 31 + flight.tell(6);
        }
        for (int i = 0; i < masts.size(); i++) {
            for (int what = 6; what <= 9; what++) {
                d = d * 31 + masts.get(i).tell(what);
            }
        }
        return d;
    }

    private long digestTracks(long start) {
        long d = start;
        for (int i = 0; i < tracks.size(); i++) {
            for (int what = 0; what <= 10; what++) {
                d = d * 31 + tellTrack(tracks.get(i), what);
            }
            d = d * 31 + flightBehind(tracks.get(i));
        }
        return d;
    }

    // ---- a minute

    private void passOne() {
        minute++;
        for (int i = 0; i < flights.size(); i++) {
            flights.get(i).move();
        }
        makePlots();
        bringPlots();
        for (int i = 0; i < squadrons.size(); i++) {
            takeTurn(squadrons.get(i));
        }
        for (int i = 0; i < squadrons.size(); i++) {
            fightWith(squadrons.get(i));
        }
        for (int i = 0; i < guns.size(); i++) {
            fireGun(guns.get(i));
        }
        loseTracks();
        for (int i = 0; i < towns.size(); i++) {
            countTown(towns.get(i));
        }
    }

    private void makePlots() {
        for (int i = 0; i < masts.size(); i++) {
            Mast mast = masts.get(i);
            for (int k = 0; k < flights.size(); k++) {
                Flight flight = flights.get(k);
                if (mast.canSee(flight)) {
                    makePlot(mast, flight);
                }
            }
        }
    }

    private void makePlot(Mast mast, Flight flight) {
        int x = hold(flight.x + lots.slipOf(mast.slip));
        int y = hold(flight.y + lots.slipOf(mast.slip));
        if (plotsOnWay >= plots.size()) {
            plots.add(new Plot(mast));
        }
        Plot plot = plots.get(plotsOnWay);
        plot.write(mast, x, y, flight.guess(), minute);
        plotsOnWay++;
        mast.made++;
    }

    /** Plots that stay on their way change places with used ones, so that their order stays and none is made anew. */
    private void bringPlots() {
        int kept = 0;
        for (int i = 0; i < plotsOnWay && i < plots.size(); i++) {
            Plot plot = plots.get(i);
            if (plot.due <= minute) {
                bringPlot(plot);
            } else {
                plots.set(i, plots.get(kept));
                plots.set(kept, plot);
                kept++;
            }
        }
        plotsOnWay = kept;
    }

    private void bringPlot(Plot plot) {
        if (plot.mast.isCut) {
            plot.mast.lost++;
            return;
        }
        plot.mast.came++;
        Track track = trackFor(plot);
        if (track != null) {
            track.take(plot);
        } else if (tracks.size() < MAX_TRACKS) {
            tracks.add(new Track(tracks.size(), plot));
        } else {
            tally.plotsWithoutTrack++;
        }
    }

    /** The track that the plot goes into, or null. */
    private Track trackFor(Plot plot) {
        Track nearest = null;
        int least = 0;
        for (int i = 0; i < tracks.size(); i++) {
            Track track = tracks.get(i);
            if (track.isLive && track.minute <= plot.seenAt) {
                int far = plot.farFrom(track.xAt(plot.seenAt), track.yAt(plot.seenAt));
                if (nearest == null || far < least) {
                    nearest = track;
                    least = far;
                }
            }
        }
        return least <= gateRadius * gateRadius ? nearest : null;
    }

    private void takeTurn(Squadron squadron) {
        switch (squadron.state) {
            case ORDERED:
                if (squadron.due <= minute) {
                    squadron.comeUp();
                }
                break;
            case UP:
            case HOME:
                fly(squadron);
                break;
            case TURNING:
                if (squadron.due <= minute) {
                    squadron.rest(GROUNDED, NONE);
                }
                break;
            default:
                break;
        }
    }

    private void fly(Squadron squadron) {
        Track target = squadron.target;
        if (target != null && target.isLive && squadron.fuel > squadron.minutesBack()) {
            squadron.go(target.xAt(minute), target.yAt(minute));
        } else {
            squadron.headHome();
            squadron.go(squadron.base.x, squadron.base.y);
        }
        squadron.fuel--;
        if (squadron.state == HOME && squadron.isAtBase()) {
            squadron.rest(TURNING, minute + TURN_MINUTES);
        } else if (squadron.fuel <= 0) {
            loseMachines(squadron, squadron.machines);
        }
    }

    private void loseMachines(Squadron squadron, int lost) {
        squadron.machines -= lost;
        tally.machinesLost += lost;
        if (squadron.machines <= 0) {
            squadron.rest(GROUNDED, NONE);
        }
    }

    private void fightWith(Squadron squadron) {
        Flight foe = squadron.state == UP ? foeNear(squadron) : null;
        if (foe == null) {
            return;
        }
        int won = winOf(squadron, foe, lots.draw());
        foe.lose(won);
        squadron.won += won;
        tally.fights++;
        tally.claims += won + won / 2;
        if (foe.count > 0) {
            int lost = foe.count * (lots.draw() % 6) / 40;
            loseMachines(squadron, Math.min(squadron.machines, lost));
        }
    }

    /** The foe that the squadron fights with where it is, or null. */
    private Flight foeNear(Squadron squadron) {
        Flight nearest = null;
        int least = 0;
        for (int i = 0; i < flights.size(); i++) {
            Flight flight = flights.get(i);
            if (flight.isUp && flight.isFoe) {
                int far = flight.farFrom(squadron.x, squadron.y);
                if (nearest == null || far < least) {
                    nearest = flight;
                    least = far;
                }
            }
        }
        return least <= FIGHT_RADIUS * FIGHT_RADIUS ? nearest : null;
    }

    private static int winOf(Squadron squadron, Flight flight, int lot) {
        return Math.min(flight.count, squadron.machines * (2 + lot % 6) / 8);
    }

    private void fireGun(Gun gun) {
        if (gun.isLent || isSquadronWithin(gun.radius, gun.x, gun.y)) {
            return;
        }
        for (int i = 0; i < flights.size(); i++) {
            Flight flight = flights.get(i);
            if (flight.isUp && flight.isWithin(gun.radius, gun.x, gun.y) && lots.draw() % 5 == 0) {
                flight.lose(1);
                if (!flight.isFoe) {
                    tally.shames++;
                }
            }
        }
    }

    private void loseTracks() {
        for (int i = 0; i < tracks.size(); i++) {
            Track track = tracks.get(i);
            if (minute - track.minute > TRACK_MINUTES) {
                track.isLive = false;
            }
        }
    }

    private void countTown(Town town) {
        if (minutesToThreat(town, SIREN_MINUTES) != NONE) {
            tally.work += town.people;
            return;
        }
        for (int i = 0; i < flights.size(); i++) {
            Flight flight = flights.get(i);
            if (flight.isUp && flight.isFoe && flight.isWithin(BOMB_RADIUS, town.x, town.y)) {
                tally.lives += flight.count;
            }
        }
    }

    // ---- friend or foe, and sirens

    private int kindOf(Track track) {
        for (int i = 0; i < plans.size(); i++) {
            if (plans.get(i).covers(track)) {
                return FRIEND;
            }
        }
        if (isSquadronWithin(FRIEND_RADIUS, track.x, track.y)) {
            return FRIEND;
        }
        return track.hits <= 2 ? UNKNOWN : HOSTILE;
    }

    private boolean isSquadronWithin(int radius, int x, int y) {
        for (int i = 0; i < squadrons.size(); i++) {
            Squadron squadron = squadrons.get(i);
            if (squadron.isInAir() && squadron.isWithin(radius, x, y)) {
                return true;
            }
        }
        return false;
    }

    /** A siren sounds SIREN_MINUTES ahead of the first threat, or now. */
    private int minutesToSiren(Town town) {
        int threat = minutesToThreat(town, SOUND_MINUTES + SIREN_MINUTES);
        return threat == NONE ? NONE : Math.max(0, threat - SIREN_MINUTES);
    }

    /** In how many minutes (up to last) the first live hostile track should be near the town; NONE without one. */
    private int minutesToThreat(Town town, int last) {
        int first = NONE;
        for (int i = 0; i < tracks.size(); i++) {
            Track track = tracks.get(i);
            if (track.isLive && kindOf(track) == HOSTILE) {
                int near = minutesToNear(town, track, last);
                if (near != NONE && (first == NONE || near < first)) {
                    first = near;
                }
            }
        }
        return first;
    }

    private int minutesToNear(Town town, Track track, int last) {
        for (int n = 0; n <= last; n++) {
            if (town.isWithin(SIREN_RADIUS, track.xAt(minute + n), track.yAt(minute + n))) {
                return n;
            }
        }
        return NONE;
    }

    // ---- what is told

    private int tellRoom(int what) {
        switch (what) {
            case 0: return minute;
            case 1: return countUp(false);
            case 2: return countUp(true);
            case 3: return countFoeMachines();
            case 4: return tracks.size();
            case 5: return countLive();
            case 6: return countLiveOfKind(FRIEND);
            case 7: return countLiveOfKind(HOSTILE);
            case 8: return plotsOnWay;
            case 9: return tally.plotsWithoutTrack;
            case 10: return countInAir();
            case 11: return countTalks();
            case 12: return tally.fights;
            case 13: return countWon();
            case 14: return tally.claims;
            case 15: return tally.machinesLost;
            case 16: return tally.shames;
            case 17: return tally.work;
            case 18: return tally.lives;
            case 19: return lots.drawn;
            default: return tally.refused;
        }
    }

    private int tellTrack(Track track, int what) {
        switch (what) {
            case 8: return kindOf(track);
            case 9: return minute - track.minute;
            case 10: return countSentTo(track);
            default: return track.tell(what);
        }
    }

    private int countUp(boolean isFoesOnly) {
        int count = 0;
        for (int i = 0; i < flights.size(); i++) {
            Flight flight = flights.get(i);
            if (flight.isUp && (flight.isFoe || !isFoesOnly)) {
                count++;
            }
        }
        return count;
    }

    private int countFoeMachines() {
        int count = 0;
        for (int i = 0; i < flights.size(); i++) {
            Flight flight = flights.get(i);
            if (flight.isUp && flight.isFoe) {
                count += flight.count;
            }
        }
        return count;
    }

    private int countLive() {
        int count = 0;
        for (int i = 0; i < tracks.size(); i++) {
            if (tracks.get(i).isLive) {
                count++;
            }
        }
        return count;
    }

    private int countLiveOfKind(int kind) {
        int count = 0;
        for (int i = 0; i < tracks.size(); i++) {
            Track track = tracks.get(i);
            if (track.isLive && kindOf(track) == kind) {
                count++;
            }
        }
        return count;
    }

    private int countLiveIn(int column, int row) {
        int count = 0;
        for (int i = 0; i < tracks.size(); i++) {
            Track track = tracks.get(i);
            if (track.isLive && track.x / 20 == column && track.y / 20 == row) {
                count++;
            }
        }
        return count;
    }

    private static char signOf(int count) {
        return count <= 0 ? '.' : (char) ('0' + Math.min(count, 9));
    }

    private int countInAir() {
        int count = 0;
        for (int i = 0; i < squadrons.size(); i++) {
            if (squadrons.get(i).isInAir()) {
                count++;
            }
        }
        return count;
    }

    private int countTalks() {
        int count = 0;
        for (int i = 0; i < squadrons.size(); i++) {
            if (squadrons.get(i).isTalkedTo()) {
                count++;
            }
        }
        return count;
    }

    private int countSentTo(Track track) {
        int count = 0;
        for (int i = 0; i < squadrons.size(); i++) {
            Squadron squadron = squadrons.get(i);
            if (squadron.isTalkedTo() && squadron.targetNumber() == track.number) {
                count++;
            }
        }
        return count;
    }

    private int countWon() {
        int count = 0;
        for (int i = 0; i < squadrons.size(); i++) {
            count += squadrons.get(i).won;
        }
        return count;
    }

    private int flightBehind(Track track) {
        int nearest = NONE;
        int least = 0;
        for (int i = 0; i < flights.size(); i++) {
            Flight flight = flights.get(i);
            if (flight.isUp) {
                int far = flight.farFrom(track.xAt(minute), track.yAt(minute));
                if (nearest == NONE || far < least) {
                    nearest = i;
                    least = far;
                }
            }
        }
        return nearest;
    }

    private double partSeen() {
        int all = countUp(false);
        if (all == 0) {
            return 1.0;
        }
        int known = 0;
        for (int i = 0; i < flights.size(); i++) {
            Flight flight = flights.get(i);
            if (flight.isUp && isOnTable(flight)) {
                known++;
            }
        }
        return (double) known / all;
    }

    private boolean isOnTable(Flight flight) {
        for (int i = 0; i < tracks.size(); i++) {
            Track track = tracks.get(i);
            if (track.isLive && flight.isWithin(SEEN_RADIUS, track.xAt(minute), track.yAt(minute))) {
                return true;
            }
        }
        return false;
    }

    private int soonestSquadron(Track track) {
        int best = NONE;
        int soonest = 0;
        int most = 0;
        for (int i = 0; i < squadrons.size(); i++) {
            Squadron squadron = squadrons.get(i);
            int flown = squadron.canStart() ? squadron.minutesToMeet(track, minute + squadron.ready) : NONE;
            if (flown == NONE || 2 * flown > squadron.tank - 3) {
                continue;
            }
            int all = squadron.ready + flown;
            if (best == NONE || all < soonest || (all == soonest && squadron.machines > most)) {
                best = i;
                soonest = all;
                most = squadron.machines;
            }
        }
        return best;
    }

    // ---- is all of it sound

    private boolean areSquadronsSound() {
        if (countTalks() > MAX_TALKS) {
            return false;
        }
        for (int i = 0; i < squadrons.size(); i++) {
            Squadron squadron = squadrons.get(i);
            if (squadron.isInAir() && (squadron.machines <= 0 || squadron.fuel <= 0)) {
                return false;
            }
        }
        return true;
    }

    private boolean arePlotsSound() {
        int made = 0;
        int came = 0;
        int lost = 0;
        for (int i = 0; i < masts.size(); i++) {
            made += masts.get(i).made;
            came += masts.get(i).came;
            lost += masts.get(i).lost;
        }
        int hits = 0;
        for (int i = 0; i < tracks.size(); i++) {
            hits += tracks.get(i).hits;
        }
        return made == came + lost + plotsOnWay && came == hits + tally.plotsWithoutTrack;
    }

    private boolean arePlacesSound() {
        for (int i = 0; i < flights.size(); i++) {
            if (!flights.get(i).isOnMap()) {
                return false;
            }
        }
        for (int i = 0; i < tracks.size(); i++) {
            if (!tracks.get(i).isOnMap()) {
                return false;
            }
        }
        for (int i = 0; i < squadrons.size(); i++) {
            if (!squadrons.get(i).isOnMap()) {
                return false;
            }
        }
        return true;
    }

    // ---- numbers

    private static boolean isIn(int value, int least, int most) {
        return value >= least && value <= most;
    }

    private static boolean isPlace(int x, int y) {
        return isIn(x, 0, EDGE) && isIn(y, 0, EDGE);
    }

    private static boolean isCourse(int x, int y) {
        return isIn(x, -9, 9) && isIn(y, -9, 9);
    }

    private static boolean isNumber(int number, int size) {
        return number >= 0 && number < size;
    }

    private static int hold(int value) {
        if (value < 0) {
            return 0;
        }
        return value > EDGE ? EDGE : value;
    }

    /** The smallest whole number whose square is not below the given one; no two places are 400 apart. */
    private static int rootAbove(int square) {
        int root = 1;
        while (root < 400 && root * root < square) {
            root++;
        }
        return root;
    }

    /** The row of drawn numbers. */
    private static final class Lots {
        private int next;
        private int drawn;

        Lots() {
            next = 11;
        }

        int draw() {
            int lot = next;
            next = (53 * lot + 29) % 241;
            drawn++;
            return lot;
        }

        int slipOf(int slip) {
            return draw() % (2 * slip + 1) - slip;
        }
    }

    /** What is counted over all minutes and kept nowhere else. */
    private static final class Tally {
        private int refused;
        private int plotsWithoutTrack;
        private int fights;
        private int claims;
        private int machinesLost;
        private int shames;
        private int work;
        private int lives;
    }

    private static class Place {
        int x;
        int y;

        Place(int x, int y) {
            this.x = x;
            this.y = y;
        }

        final int farFrom(int otherX, int otherY) {
            int byX = x - otherX;
            int byY = y - otherY;
            return byX * byX + byY * byY;
        }

        final boolean isWithin(int radius, int otherX, int otherY) {
            int byX = x - otherX;
            int byY = y - otherY;
            return byX * byX + byY * byY <= radius * radius;
        }

        final boolean isOnMap() {
            return isPlace(x, y);
        }
    }

    private static final class Flight extends Place {
        private final boolean isFoe;
        private final int height;
        private int courseX;
        private int courseY;
        private int count;
        private boolean isUp;

        Flight(boolean isFoe, int x, int y, int courseX, int courseY, int height, int count) {
            super(x, y);
            this.isFoe = isFoe;
            this.courseX = courseX;
            this.courseY = courseY;
            this.height = height;
            this.count = count;
            isUp = true;
        }

        void move() {
            if (!isUp) {
                return;
            }
            if (isPlace(x + courseX, y + courseY)) {
                x += courseX;
                y += courseY;
            } else {
                isUp = false;
            }
        }

        int minutesOnMap() {
            int n = 0;
            while (n < BEND_MINUTES && isPlace(x + courseX * (n + 1), y + courseY * (n + 1))) {
                n++;
            }
            return n;
        }

        void lose(int machines) {
            count -= machines;
            if (count <= 0) {
                isUp = false;
            }
        }

        int guess() {
            return count <= 9 ? count : count / 10 * 10;
        }

        int tell(int what) {
            switch (what) {
                case 0: return x;
                case 1: return y;
                case 2: return courseX;
                case 3: return courseY;
                case 4: return height;
                case 5: return count;
                case 6: return isUp ? 1 : 0;
                default: return isFoe ? 1 : 0;
            }
        }
    }

    private static final class Mast extends Place {
        private final int range;
        private final int blind;
        private final int slip;
        private final int lag;
        private boolean isCut;
        private int made;
        private int came;
        private int lost;

        Mast(int x, int y, int range, int blind, int slip, int lag) {
            super(x, y);
            this.range = range;
            this.blind = blind;
            this.slip = slip;
            this.lag = lag;
        }

        boolean canSee(Flight flight) {
            return flight.isUp && flight.height > blind && isWithin(range, flight.x, flight.y);
        }

        int tell(int what) {
            switch (what) {
                case 0: return x;
                case 1: return y;
                case 2: return range;
                case 3: return blind;
                case 4: return slip;
                case 5: return lag;
                case 6: return isCut ? 1 : 0;
                case 7: return made;
                case 8: return came;
                default: return lost;
            }
        }
    }

    /** What a mast saw of a flight; it is written anew when it has come or is lost. */
    private static final class Plot extends Place {
        private Mast mast;
        private int guess;
        private int seenAt;
        private int due;

        Plot(Mast mast) {
            super(mast.x, mast.y);
            this.mast = mast;
        }

        void write(Mast mast, int x, int y, int guess, int seenAt) {
            this.mast = mast;
            this.x = x;
            this.y = y;
            this.guess = guess;
            this.seenAt = seenAt;
            due = seenAt + mast.lag;
        }
    }

    private static final class Track extends Place {
        private final int number;
        private int minute;
        private int courseX;
        private int courseY;
        private boolean hasCourse;
        private int guess;
        private int hits;
        private boolean isLive;

        Track(int number, Plot plot) {
            super(plot.x, plot.y);
            this.number = number;
            minute = plot.seenAt;
            guess = plot.guess;
            hits = 1;
            isLive = true;
        }

        int xAt(int time) {
            return hold(x + courseX * (time - minute) / 10);
        }

        int yAt(int time) {
            return hold(y + courseY * (time - minute) / 10);
        }

        void take(Plot plot) {
            int span = plot.seenAt - minute;
            if (span > 0) {
                courseX = courseBy(courseX, 10 * (plot.x - x) / span);
                courseY = courseBy(courseY, 10 * (plot.y - y) / span);
                hasCourse = true;
                x = plot.x;
                y = plot.y;
                minute = plot.seenAt;
            } else {
                x = (x + plot.x) / 2;
                y = (y + plot.y) / 2;
            }
            guess = Math.max(guess, plot.guess);
            hits++;
        }

        private int courseBy(int before, int now) {
            return hasCourse ? (now + before) / 2 : now;
        }

        int tell(int what) {
            switch (what) {
                case 0: return x;
                case 1: return y;
                case 2: return minute;
                case 3: return courseX;
                case 4: return courseY;
                case 5: return guess;
                case 6: return hits;
                default: return isLive ? 1 : 0;
            }
        }
    }

    private static final class Plan extends Place {
        private final int from;
        private final int to;
        private final int radius;

        Plan(int from, int to, int x, int y, int radius) {
            super(x, y);
            this.from = from;
            this.to = to;
            this.radius = radius;
        }

        boolean covers(Track track) {
            return isIn(track.minute, from, to) && isWithin(radius, track.x, track.y);
        }
    }

    private static final class Squadron extends Place {
        private final int stationNumber;
        private final Place base;
        private final int speed;
        private final int tank;
        private final int ready;
        private int machines;
        private int state;
        private int fuel;
        private Track target;
        private int due;
        private int won;

        Squadron(int stationNumber, Place base, int machines, int speed, int tank, int ready) {
            super(base.x, base.y);
            this.stationNumber = stationNumber;
            this.base = base;
            this.machines = machines;
            this.speed = speed;
            this.tank = tank;
            this.ready = ready;
            state = GROUNDED;
            fuel = tank;
            due = NONE;
        }

        boolean canStart() {
            return state == GROUNDED && machines > 0;
        }

        boolean isInAir() {
            return state == UP || state == HOME;
        }

        boolean isTalkedTo() {
            return state == ORDERED || state == UP;
        }

        boolean isAtBase() {
            return x == base.x && y == base.y;
        }

        int targetNumber() {
            return target == null ? NONE : target.number;
        }

        void order(Track track, int minuteUp) {
            state = ORDERED;
            target = track;
            due = minuteUp;
        }

        void comeUp() {
            state = UP;
            due = NONE;
        }

        void headHome() {
            state = HOME;
            target = null;
        }

        /** On the ground it stands at its station with its fuel whole and no track. */
        void rest(int groundState, int minuteDue) {
            state = groundState;
            due = minuteDue;
            target = null;
            fuel = tank;
            x = base.x;
            y = base.y;
        }

        void go(int toX, int toY) {
            if (isWithin(speed, toX, toY)) {
                x = toX;
                y = toY;
                return;
            }
            int steps = rootAbove(farFrom(toX, toY));
            x += (toX - x) * speed / steps;
            y += (toY - y) * speed / steps;
        }

        /** BACK: the minutes to its station and 3; the bound is above any way at the least speed. */
        int minutesBack() {
            int n = 0;
            while (n < 100 && !isWithin(speed * n, base.x, base.y)) {
                n++;
            }
            return n + 3;
        }

        int minutesToMeet(Track track, int start) {
            for (int n = 0; n <= MEET_MINUTES; n++) {
                if (isWithin(speed * n, track.xAt(start + n), track.yAt(start + n))) {
                    return n;
                }
            }
            return NONE;
        }

        int tell(int what) {
            switch (what) {
                case 0: return stationNumber;
                case 1: return machines;
                case 2: return state;
                case 3: return x;
                case 4: return y;
                case 5: return fuel;
                case 6: return targetNumber();
                case 7: return due;
                case 8: return minutesBack();
                default: return won;
            }
        }
    }

    private static final class Gun extends Place {
        private final int radius;
        private boolean isLent;

        Gun(int x, int y, int radius) {
            super(x, y);
            this.radius = radius;
        }
    }

    private static final class Town extends Place {
        private final int people;

        Town(int x, int y, int people) {
            super(x, y);
            this.people = people;
        }
    }
}
