/** Signal beacons on hills. */
public final class HillBeacons {
    private static final int MOST_HILLS = 10;
    private static final int MOST_WOOD = 30;
    private static final int MOST_DAMP = 9;
    private static final int MOST_WATCH = 5;
    private static final int MOST_MILES = 20;
    private static final int MOST_HAZE = 9;
    private static final int MOST_GLOW = 30;
    private static final int MOST_MINUTES = 100;
    private static final int REACH_MINUTES = 100;
    private static final int WAIT_MINUTES = 150;

    private static final int DARK = 0;
    private static final int KINDLING = 1;
    private static final int BURNING = 2;

    private static final int NO_HILL = -1;
    private static final int NO_FIRE = -2;

    private static final long DIGEST_START = 1883;

    private final Land land;
    // Forecasts run on this one, made once, so that asking makes no objects.
    private final Land trial;

    public HillBeacons() {
        land = new Land();
        trial = new Land();
    }

    // ---- the land

    public int addHill(int wood, int damp, int watch)
            throws IllegalArgumentException, IllegalStateException {
        requireBetween(wood, 0, MOST_WOOD);
        requireBetween(damp, 0, MOST_DAMP);
        requireBetween(watch, 1, MOST_WATCH);
        if (land.count >= MOST_HILLS) {
            throw new IllegalStateException("there is no room for another hill");
        }
        return land.settle(wood, damp, watch);
    }

    public int setSight(int a, int b, int miles)
            throws IndexOutOfBoundsException, IllegalArgumentException {
        requireHill(a);
        requireHill(b);
        if (a == b) {
            throw new IllegalArgumentException("a hill has no sight to itself");
        }
        requireBetween(miles, 0, MOST_MILES);
        int before = land.milesFrom(a, b);
        land.putMiles(a, b, miles);
        land.putMiles(b, a, miles);
        return before;
    }

    public boolean turnEast(int hill) throws IndexOutOfBoundsException {
        Hill turned = existing(hill);
        turned.east = !turned.east;
        return turned.east;
    }

    public boolean turnPost(int hill) throws IndexOutOfBoundsException {
        Hill turned = existing(hill);
        turned.post = !turned.post;
        return turned.post;
    }

    public int bringWood(int hill, int bundles)
            throws IndexOutOfBoundsException, IllegalArgumentException {
        Hill supplied = existing(hill);
        requireBetween(bundles, 1, MOST_WOOD);
        supplied.wood = Math.min(supplied.wood + bundles, MOST_WOOD);
        return supplied.wood;
    }

    public int setDamp(int hill, int damp)
            throws IndexOutOfBoundsException, IllegalArgumentException {
        Hill changed = existing(hill);
        requireBetween(damp, 0, MOST_DAMP);
        int before = changed.damp;
        changed.damp = damp;
        return before;
    }

    public int setHaze(int haze) throws IllegalArgumentException {
        requireBetween(haze, 0, MOST_HAZE);
        int before = land.haze;
        land.haze = haze;
        return before;
    }

    // ---- signals

    public int light(int hill) throws IndexOutOfBoundsException, IllegalStateException {
        requireReady(hill);
        land.kindleByHand(hill);
        return land.hillAt(hill).left;
    }

    public int douse(int hill) throws IndexOutOfBoundsException, IllegalStateException {
        Hill doused = alight(hill);
        doused.goDark();
        return doused.wood;
    }

    public int glow(int minutes) throws IllegalArgumentException {
        requireBetween(minutes, 0, MOST_GLOW);
        int before = land.glow;
        land.glow = minutes;
        return before;
    }

    public int passMinutes(int minutes) throws IllegalArgumentException {
        requireBetween(minutes, 1, MOST_MINUTES);
        int litBefore = land.lit;
        land.passMany(minutes);
        return land.lit - litBefore;
    }

    // ---- what hills are

    public int woodOf(int hill) throws IndexOutOfBoundsException {
        return existing(hill).wood;
    }

    public int dampOf(int hill) throws IndexOutOfBoundsException {
        return existing(hill).damp;
    }

    public int watchOf(int hill) throws IndexOutOfBoundsException {
        return existing(hill).watch;
    }

    public boolean looksEast(int hill) throws IndexOutOfBoundsException {
        return existing(hill).east;
    }

    public boolean isPost(int hill) throws IndexOutOfBoundsException {
        return existing(hill).post;
    }

    public int milesBetween(int a, int b) throws IndexOutOfBoundsException {
        requireHill(a);
        requireHill(b);
        return land.milesFrom(a, b);
    }

    public boolean canSee(int a, int b) throws IndexOutOfBoundsException {
        requireHill(a);
        requireHill(b);
        return land.sees(a, b);
    }

    public int fewestSteps(int a, int b) throws IndexOutOfBoundsException {
        requireHill(a);
        requireHill(b);
        return land.stepsFrom(a, b);
    }

    // ---- fires

    public boolean isDark(int hill) throws IndexOutOfBoundsException {
        return existing(hill).fire == DARK;
    }

    public boolean isBurning(int hill) throws IndexOutOfBoundsException {
        return existing(hill).fire == BURNING;
    }

    public int minutesToBurn(int hill) throws IndexOutOfBoundsException {
        return existing(hill).left;
    }

    public int lookingFor(int hill) throws IndexOutOfBoundsException {
        return existing(hill).looking;
    }

    public int sourceOf(int hill) throws IndexOutOfBoundsException, IllegalStateException {
        return alight(hill).source;
    }

    public boolean isMistaken(int hill) throws IndexOutOfBoundsException {
        return existing(hill).source == NO_HILL;
    }

    public int answersTo(int hill) throws IndexOutOfBoundsException {
        return existing(hill).answers;
    }

    // ---- the land: what there is

    public int hills() {
        return land.count;
    }

    public int minute() {
        return land.minute;
    }

    public int haze() {
        return land.haze;
    }

    public int glowLeft() {
        return land.glow;
    }

    public int burningHills() {
        return land.countBurning();
    }

    public int timesLit() {
        return land.lit;
    }

    public int timesMistaken() {
        return land.mistaken;
    }

    // ---- what would be

    public int minutesUntilBurning(int hill) throws IndexOutOfBoundsException {
        requireHill(hill);
        trial.copyFrom(land);
        for (int passed = 0; passed <= WAIT_MINUTES; passed++) {
            if (trial.hillAt(hill).fire == BURNING) {
                return passed;
            }
            trial.passOne();
        }
        return -1;
    }

    public int burningAfter(int minutes) throws IllegalArgumentException {
        requireBetween(minutes, 1, MOST_MINUTES);
        trial.copyFrom(land);
        trial.passMany(minutes);
        return trial.countBurning();
    }

    public int reachOf(int hill) throws IndexOutOfBoundsException, IllegalStateException {
        requireReady(hill);
        return tryReach(hill);
    }

    public int bestHill() {
        int best = NO_HILL;
        int bestReach = 0;
        for (int hill = 0; hill < land.count; hill++) {
            int reach = land.hillAt(hill).isReady() ? tryReach(hill) : 0;
            if (reach > bestReach) {
                best = hill;
                bestReach = reach;
            }
        }
        return best;
    }

    public double meanWood() {
        if (land.count <= 0) {
            return 0;
        }
        return (double) land.sumWood() / land.count;
    }

    public long digest() {
        return digestSights(digestHills(digestLand(DIGEST_START)));
    }

    // ---- what the calls share

    private static void requireBetween(int number, int least, int most) {
        if (number < least || number > most) {
            throw new IllegalArgumentException("a number is outside its bounds");
        }
    }

    private void requireHill(int hill) {
        if (hill < 0 || hill >= land.count) {
            throw new IndexOutOfBoundsException("there is no such hill");
        }
    }

    private Hill existing(int hill) {
        requireHill(hill);
        return land.hillAt(hill);
    }

    private Hill alight(int hill) {
        Hill found = existing(hill);
        if (found.fire == DARK) {
            throw new IllegalStateException("the hill is dark");
        }
        return found;
    }

    private void requireReady(int hill) {
        if (!existing(hill).isReady()) {
            throw new IllegalStateException("the hill is not dark, or has no wood");
        }
    }

    private int tryReach(int hill) {
        trial.copyFrom(land);
        trial.kindleByHand(hill);
        int reached = 0;
        for (int passed = 0; passed < REACH_MINUTES; passed++) {
            trial.passOne();
            reached |= trial.burningFrom(hill);
        }
        return Integer.bitCount(reached);
    }

    private static long mix(long digest, long number) {
        return digest * 31 + number;
    }

    private static long mixIf(long digest, boolean isSo) {
        return mix(digest, isSo ? 1 : 0);
    }

    private long digestLand(long start) {
        long digest = mix(start, land.count);
        digest = mix(digest, land.minute);
        digest = mix(digest, land.haze);
        digest = mix(digest, land.glow);
        digest = mix(digest, land.countBurning());
        digest = mix(digest, land.lit);
        return mix(digest, land.mistaken);
    }

    private long digestHills(long start) {
        long digest = start;
        for (int hill = 0; hill < land.count; hill++) {
            digest = digestHill(digest, land.hillAt(hill));
        }
        return digest;
    }

    private static long digestHill(long start, Hill hill) {
        long digest = mix(start, hill.wood);
        digest = mix(digest, hill.damp);
        digest = mix(digest, hill.watch);
        digest = mixIf(digest, hill.east);
        digest = mixIf(digest, hill.post);
        digest = mixIf(digest, hill.fire == DARK);
        digest = mixIf(digest, hill.fire == BURNING);
        digest = mix(digest, hill.left);
        digest = mix(digest, hill.looking);
        digest = mix(digest, hill.source);
        return mix(digest, hill.answers);
    }

    private long digestSights(long start) {
        long digest = start;
        for (int a = 0; a < land.count; a++) {
            for (int b = 0; b < land.count; b++) {
                digest = mix(digest, land.milesFrom(a, b));
                digest = mixIf(digest, land.sees(a, b));
            }
        }
        return digest;
    }

    private static final class Hill {
        int wood;
        int damp;
        int watch;
        boolean east;
        boolean post;
        int fire = DARK;
        // Fires change within a minute, but a minute goes by what was as it began.
        int fireBefore = DARK;
        int left;
        int looking;
        int source = NO_FIRE;
        int answers;

        boolean isReady() {
            return fire == DARK && wood > 0;
        }

        void kindle(int from) {
            wood--;
            looking = 0;
            fire = KINDLING;
            left = damp + 1;
            source = from;
        }

        void goDark() {
            fire = DARK;
            left = 0;
            source = NO_FIRE;
        }

        void burnOn() {
            if (wood > 0) {
                wood--;
            } else {
                goDark();
            }
        }

        void copyFrom(Hill other) {
            wood = other.wood;
            damp = other.damp;
            watch = other.watch;
            east = other.east;
            post = other.post;
            fire = other.fire;
            left = other.left;
            looking = other.looking;
            source = other.source;
            answers = other.answers;
        }
    }

    private static final class Land {
        final Hill[] places = new Hill[MOST_HILLS];
        // Stands for any hill outside the land, so that hillAt never answers null.
        final Hill nowhere = new Hill();
        final int[] sights = new int[MOST_HILLS * MOST_HILLS];
        int count;
        int haze;
        int glow;
        int minute;
        int lit;
        int mistaken;

        Land() {
            for (int i = 0; i < places.length; i++) {
                places[i] = new Hill();
            }
        }

        Hill hillAt(int number) {
            if (number < 0 || number >= places.length) {
                return nowhere;
            }
            Hill found = places[number];
            return found == null ? nowhere : found;
        }

        int settle(int wood, int damp, int watch) {
            int number = count;
            Hill settled = hillAt(number);
            settled.wood = wood;
            settled.damp = damp;
            settled.watch = watch;
            count = number + 1;
            return number;
        }

        int milesFrom(int a, int b) {
            int at = a * MOST_HILLS + b;
            return at >= 0 && at < sights.length ? sights[at] : 0;
        }

        void putMiles(int a, int b, int miles) {
            int at = a * MOST_HILLS + b;
            if (at >= 0 && at < sights.length) {
                sights[at] = miles;
            }
        }

        boolean isClearOver(int miles) {
            return miles > 0 && miles <= MOST_MILES - 2 * haze;
        }

        boolean sees(int a, int b) {
            return isClearOver(milesFrom(a, b));
        }

        int stepsFrom(int a, int b) {
            int reached = 1 << a;
            for (int steps = 0; steps < MOST_HILLS; steps++) {
                if (isIn(reached, b)) {
                    return steps;
                }
                reached |= seenFromAny(reached);
            }
            return -1;
        }

        // A set of hills is held in the bits of a number, as that makes no objects.
        static boolean isIn(int set, int hill) {
            return (set >> hill & 1) != 0;
        }

        int seenFromAny(int set) {
            int seen = 0;
            for (int from = 0; from < count; from++) {
                if (isIn(set, from)) {
                    seen |= seenFrom(from);
                }
            }
            return seen;
        }

        int seenFrom(int from) {
            int seen = 0;
            for (int to = 0; to < count; to++) {
                if (sees(from, to)) {
                    seen |= 1 << to;
                }
            }
            return seen;
        }

        int sumWood() {
            int sum = 0;
            for (int i = 0; i < count; i++) {
                sum += hillAt(i).wood;
            }
            return sum;
        }

        int countBurning() {
            int burning = 0;
            for (int i = 0; i < count; i++) {
                if (hillAt(i).fire == BURNING) {
                    burning++;
                }
            }
            return burning;
        }

        int burningFrom(int source) {
            int set = 0;
            for (int i = 0; i < count; i++) {
                Hill hill = hillAt(i);
                if (hill.fire == BURNING && hill.source == source) {
                    set |= 1 << i;
                }
            }
            return set;
        }

        void kindle(int number, int source) {
            hillAt(number).kindle(source);
            lit++;
            if (source == NO_HILL) {
                mistaken++;
            }
        }

        void kindleByHand(int number) {
            kindle(number, number);
            hillAt(number).answers = 0;
        }

        void passMany(int minutes) {
            for (int passed = 0; passed < minutes; passed++) {
                passOne();
            }
        }

        void passOne() {
            rememberFires();
            lookOut();
            answerSignals();
            kindleOn();
            burnOn();
            if (glow > 0) {
                glow--;
            }
            minute++;
        }

        void rememberFires() {
            for (int i = 0; i < count; i++) {
                Hill hill = hillAt(i);
                hill.fireBefore = hill.fire;
            }
        }

        void lookOut() {
            for (int i = 0; i < count; i++) {
                Hill hill = hillAt(i);
                boolean looks = hill.isReady() && (seesGlow(hill) || nearestFire(i) != NO_HILL);
                hill.looking = looks ? hill.looking + 1 : 0;
            }
        }

        boolean seesGlow(Hill hill) {
            return hill.east && glow > 0;
        }

        int nearestFire(int from) {
            int nearest = NO_HILL;
            int fewestMiles = MOST_MILES + 1;
            for (int to = 0; to < count; to++) {
                int miles = milesFrom(from, to);
                boolean isFire = hillAt(to).fireBefore == BURNING;
                if (isFire && isClearOver(miles) && miles < fewestMiles) {
                    nearest = to;
                    fewestMiles = miles;
                }
            }
            return nearest;
        }

        void answerSignals() {
            for (int i = 0; i < count; i++) {
                Hill hill = hillAt(i);
                if (hill.looking >= hill.watch) {
                    kindle(i, sourceSeenFrom(i));
                }
            }
        }

        int sourceSeenFrom(int number) {
            int fire = nearestFire(number);
            return fire == NO_HILL ? NO_HILL : hillAt(fire).source;
        }

        void kindleOn() {
            for (int i = 0; i < count; i++) {
                Hill hill = hillAt(i);
                if (hill.fireBefore == KINDLING) {
                    hill.left--;
                    if (hill.left <= 0) {
                        startBurning(hill);
                    }
                }
            }
        }

        void startBurning(Hill hill) {
            hill.fire = BURNING;
            if (hill.post && hill.source != NO_HILL) {
                hillAt(hill.source).answers++;
            }
        }

        void burnOn() {
            for (int i = 0; i < count; i++) {
                Hill hill = hillAt(i);
                if (hill.fireBefore == BURNING) {
                    hill.burnOn();
                }
            }
        }

        void copyFrom(Land other) {
            for (int i = 0; i < MOST_HILLS; i++) {
                hillAt(i).copyFrom(other.hillAt(i));
                for (int j = 0; j < MOST_HILLS; j++) {
                    putMiles(i, j, other.milesFrom(i, j));
                }
            }
            count = other.count;
            haze = other.haze;
            glow = other.glow;
            minute = other.minute;
            lit = other.lit;
            mistaken = other.mistaken;
        }
    }
}
