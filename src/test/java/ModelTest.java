/**
 * Long runs of mixed calls, each answer compared with a second telling of the document, which
 * makes a whole new land for each minute instead of changing one. The runs are the same each time.
 */
public final class ModelTest {
    private static final int RUNS = 600;
    private static final int CALLS = 500;

    private long seed;
    private HillBeacons land;
    private Model model;

    public static void main(String[] args) {
        for (int run = 0; run < RUNS; run++) {
            new ModelTest().play(run);
        }
        Expect.end();
    }

    private void play(int run) {
        seed = run * 7919L + 17;
        land = new HillBeacons();
        model = new Model();
        int asked = run % 11;
        for (int i = 0; i < asked; i++) {
            compare(run, 0, pick(0, 30), pick(0, run % 2 == 0 ? 3 : 9), pick(1, 5));
        }
        for (int i = 0; i < CALLS; i++) {
            int call = pick(0, 59);
            compare(run, call, number(call), number(call), number(call));
            if (i % 8 == 0) {
                compare(run, 40, 0, 0, 0);
            }
        }
    }

    /** Mostly a number that the call takes, now and then one beside it. */
    private int number(int call) {
        if (pick(0, 19) == 0) {
            return pick(-2, 34);
        }
        if (call >= 50) {
            return pick(0, Math.max(0, model.hills.length - 1));
        }
        return pick(0, pick(0, 2) == 0 ? 20 : 9);
    }

    private int pick(int least, int most) {
        seed = seed * 6364136223846793005L + 1442695040888963407L;
        return least + (int) ((seed >>> 33) % (most - least + 1));
    }

    private void compare(int run, int call, int a, int b, int c) {
        // Calls that make things happen come more often than others.
        int chosen = call < 50 ? call : new int[] {2, 2, 3, 4, 5, 8, 8, 11, 11, 36}[call - 50];
        String got = answer(chosen, a, b, c);
        String due = model.answer(chosen, a, b, c);
        String what = "run " + run + ", call " + chosen + " of " + a + ", " + b + ", " + c;
        Expect.same(what, got, due);
    }

    private String answer(int call, int a, int b, int c) {
        try {
            return call < 20 ? first(call, a, b, c) : second(call, a, b);
        } catch (RuntimeException e) {
            return e.getClass().getSimpleName();
        }
    }

    private String first(int call, int a, int b, int c) {
        switch (call) {
            case 0: return "" + land.addHill(a, b, c);
            case 2: return "" + land.setSight(a, b, c);
            case 3: return "" + land.turnEast(a);
            case 4: return "" + land.turnPost(a);
            case 5: return "" + land.bringWood(a, b);
            case 6: return "" + land.setDamp(a, b);
            case 7: return "" + land.setHaze(a - 2);
            case 8: return "" + land.light(a);
            case 9: return "" + land.douse(a);
            case 10: return "" + land.glow(a);
            case 11: return "" + land.passMinutes(a);
            case 12: return "" + land.woodOf(a);
            case 13: return "" + land.dampOf(a);
            case 14: return "" + land.watchOf(a);
            case 15: return "" + land.looksEast(a);
            case 16: return "" + land.isPost(a);
            case 17: return "" + land.milesBetween(a, b);
            case 18: return "" + land.canSee(a, b);
            case 19: return "" + land.fewestSteps(a, b);
            default: return "";
        }
    }

    private String second(int call, int a, int b) {
        switch (call) {
            case 20: return "" + land.isDark(a);
            case 21: return "" + land.isBurning(a);
            case 22: return "" + land.minutesToBurn(a);
            case 23: return "" + land.lookingFor(a);
            case 24: return "" + land.sourceOf(a);
            case 25: return "" + land.isMistaken(a);
            case 26: return "" + land.answersTo(a);
            case 27: return "" + land.hills();
            case 28: return "" + land.minute();
            case 29: return "" + land.haze();
            case 30: return "" + land.glowLeft();
            case 31: return "" + land.burningHills();
            case 32: return "" + land.timesLit();
            case 33: return "" + land.timesMistaken();
            case 34: return "" + land.minutesUntilBurning(a);
            case 35: return "" + land.burningAfter(a + b);
            case 36: return "" + land.reachOf(a);
            case 37: return "" + land.bestHill();
            case 38: return "" + land.meanWood();
            case 40: return "" + land.digest();
            default: return "";
        }
    }

    /** A hill as it is in one minute; never changed by a minute, only followed by another. */
    private static final class Spot implements Cloneable {
        int wood;
        int damp;
        int watch;
        boolean east;
        boolean post;
        int looking;
        /** 0 if dark, minutes to burn if kindling, -1 if burning. */
        int kindling;
        /** null if dark; a hill's number, or -1 as a mistake. */
        Integer source;
        int answers;

        Spot copy() {
            try {
                return (Spot) clone();
            } catch (CloneNotSupportedException e) {
                throw new AssertionError(e);
            }
        }

        boolean burns() {
            return kindling == -1;
        }

        boolean canBeLit() {
            return source == null && wood > 0;
        }

        void lightFrom(int from) {
            wood -= 1;
            looking = 0;
            kindling = damp + 1;
            source = from;
        }

        void end() {
            kindling = 0;
            source = null;
        }
    }

    private static final class Model {
        Spot[] hills = {};
        int[][] miles = new int[10][10];
        int haze;
        int glow;
        int minute;
        int lit;
        int mistakes;

        Model copy() {
            Model copy = new Model();
            copy.hills = new Spot[hills.length];
            for (int i = 0; i < hills.length; i++) {
                copy.hills[i] = hills[i].copy();
            }
            copy.miles = miles;
            copy.haze = haze;
            copy.glow = glow;
            copy.minute = minute;
            copy.lit = lit;
            copy.mistakes = mistakes;
            return copy;
        }

        boolean sees(int a, int b) {
            return miles[a][b] != 0 && miles[a][b] + 2 * haze <= 20;
        }

        /** The land a minute later; this one stays as the minute began. */
        Model later() {
            Model then = copy();
            then.minute = minute + 1;
            then.glow = Math.max(0, glow - 1);
            for (int i = 0; i < hills.length; i++) {
                follow(i, then);
            }
            for (int i = 0; i < hills.length; i++) {
                boolean beginsToBurn = hills[i].kindling == 1;
                if (beginsToBurn && hills[i].post && hills[i].source != -1) {
                    then.hills[hills[i].source].answers++;
                }
            }
            return then;
        }

        private void follow(int i, Model then) {
            Spot now = hills[i];
            Spot next = then.hills[i];
            if (now.canBeLit()) {
                followDark(i, then);
                return;
            }
            next.looking = 0;
            if (now.burns()) {
                if (now.wood == 0) {
                    next.end();
                } else {
                    next.wood = now.wood - 1;
                }
            } else if (now.kindling > 0) {
                next.kindling = now.kindling == 1 ? -1 : now.kindling - 1;
            }
        }

        private void followDark(int i, Model then) {
            int seen = -1;
            for (int over = 20; over >= 1; over--) {
                for (int j = hills.length - 1; j >= 0; j--) {
                    if (miles[i][j] == over && sees(i, j) && hills[j].burns()) {
                        seen = j;
                    }
                }
            }
            boolean something = seen >= 0 || hills[i].east && glow > 0;
            int looking = something ? hills[i].looking + 1 : 0;
            then.hills[i].looking = looking;
            if (looking >= hills[i].watch) {
                then.put(i, seen >= 0 ? hills[seen].source : -1);
            }
        }

        private void put(int i, int source) {
            hills[i].lightFrom(source);
            lit++;
            mistakes += source == -1 ? 1 : 0;
        }

        private Model after(int minutes) {
            Model then = this;
            for (int i = 0; i < minutes; i++) {
                then = then.later();
            }
            return then;
        }

        private void become(Model other) {
            hills = other.hills;
            glow = other.glow;
            minute = other.minute;
            lit = other.lit;
            mistakes = other.mistakes;
        }

        private void byHand(int hill) {
            put(hill, hill);
            hills[hill].answers = 0;
        }

        private int burning() {
            int burning = 0;
            for (Spot hill : hills) {
                burning += hill.burns() ? 1 : 0;
            }
            return burning;
        }

        private int until(int hill) {
            Model then = this;
            for (int i = 0; i <= 150; i++) {
                if (then.hills[hill].burns()) {
                    return i;
                }
                then = then.later();
            }
            return -1;
        }

        private int reach(int hill) {
            Model then = copy();
            then.byHand(hill);
            boolean[] reached = new boolean[hills.length];
            for (int i = 1; i <= 100; i++) {
                then = then.later();
                for (int j = 0; j < reached.length; j++) {
                    reached[j] |= then.hills[j].burns() && then.hills[j].source == hill;
                }
            }
            int count = 0;
            for (boolean one : reached) {
                count += one ? 1 : 0;
            }
            return count;
        }

        private int best() {
            int best = -1;
            for (int i = hills.length - 1; i >= 0; i--) {
                if (hills[i].canBeLit() && (best < 0 || reach(i) >= reach(best))) {
                    best = i;
                }
            }
            return best;
        }

        private int steps(int a, int b) {
            int[][] far = new int[hills.length][hills.length];
            for (int i = 0; i < hills.length; i++) {
                for (int j = 0; j < hills.length; j++) {
                    far[i][j] = i == j ? 0 : sees(i, j) ? 1 : 99;
                }
            }
            for (int k = 0; k < hills.length; k++) {
                for (int i = 0; i < hills.length; i++) {
                    for (int j = 0; j < hills.length; j++) {
                        far[i][j] = Math.min(far[i][j], far[i][k] + far[k][j]);
                    }
                }
            }
            return far[a][b] >= 99 ? -1 : far[a][b];
        }

        private double mean() {
            double sum = 0;
            for (Spot hill : hills) {
                sum += hill.wood;
            }
            return hills.length == 0 ? 0 : sum / hills.length;
        }

        private long digest() {
            StringBuilder all = new StringBuilder();
            add(all, hills.length, minute, haze, glow, burning(), lit, mistakes);
            for (Spot h : hills) {
                add(all, h.wood, h.damp, h.watch, h.east ? 1 : 0, h.post ? 1 : 0,
                        h.source == null ? 1 : 0, h.burns() ? 1 : 0, Math.max(0, h.kindling),
                        h.looking, h.source == null ? -2 : h.source, h.answers);
            }
            for (int i = 0; i < hills.length; i++) {
                for (int j = 0; j < hills.length; j++) {
                    add(all, miles[i][j], sees(i, j) ? 1 : 0);
                }
            }
            long d = 1883;
            for (String x : all.toString().trim().split(" ")) {
                d = d * 31 + Long.parseLong(x);
            }
            return d;
        }

        private static void add(StringBuilder all, int... numbers) {
            for (int number : numbers) {
                all.append(number).append(' ');
            }
        }

        private boolean outside(int number, int least, int most) {
            return number < least || number > most;
        }

        private boolean noHill(int hill) {
            return outside(hill, 0, hills.length - 1);
        }

        /** The name of the exception that is due, or an empty text. */
        private String refusal(int call, int a, int b, int c) {
            boolean takesTwoHills = call == 2 || call >= 17 && call <= 19;
            boolean takesAHill = call >= 2 && call <= 6 || call == 8 || call == 9
                    || call >= 12 && call <= 26 || call == 34 || call == 36;
            if (takesAHill && noHill(a) || takesTwoHills && noHill(b)) {
                return "IndexOutOfBoundsException";
            }
            if (badNumber(call, a, b, c)) {
                return "IllegalArgumentException";
            }
            boolean badState = call == 0 && hills.length == 10
                    || (call == 8 || call == 36) && !hills[a].canBeLit()
                    || (call == 9 || call == 24) && hills[a].source == null;
            return badState ? "IllegalStateException" : "";
        }

        private boolean badNumber(int call, int a, int b, int c) {
            switch (call) {
                case 0: return outside(a, 0, 30) || outside(b, 0, 9) || outside(c, 1, 5);
                case 2: return a == b || outside(c, 0, 20);
                case 5: return outside(b, 1, 30);
                case 6: return outside(b, 0, 9);
                case 7: return outside(a - 2, 0, 9);
                case 10: return outside(a, 0, 30);
                case 11: return outside(a, 1, 100);
                case 35: return outside(a + b, 1, 100);
                default: return false;
            }
        }

        String answer(int call, int a, int b, int c) {
            String refusal = refusal(call, a, b, c);
            if (!refusal.isEmpty()) {
                return refusal;
            }
            return call < 12 ? change(call, a, b, c) : ask(call, a, b);
        }

        private String change(int call, int a, int b, int c) {
            int before;
            switch (call) {
                case 0: return "" + add(a, b, c);
                case 2:
                    before = miles[a][b];
                    miles[a][b] = c;
                    miles[b][a] = c;
                    return "" + before;
                case 3: return "" + (hills[a].east = !hills[a].east);
                case 4: return "" + (hills[a].post = !hills[a].post);
                case 5: return "" + (hills[a].wood = Math.min(30, hills[a].wood + b));
                case 6:
                    before = hills[a].damp;
                    hills[a].damp = b;
                    return "" + before;
                case 7:
                    before = haze;
                    haze = a - 2;
                    return "" + before;
                case 8:
                    byHand(a);
                    return "" + (hills[a].damp + 1);
                case 9:
                    hills[a].end();
                    return "" + hills[a].wood;
                case 10:
                    before = glow;
                    glow = a;
                    return "" + before;
                case 11:
                    before = lit;
                    become(after(a));
                    return "" + (lit - before);
                default: return "";
            }
        }

        private int add(int wood, int damp, int watch) {
            Spot spot = new Spot();
            spot.wood = wood;
            spot.damp = damp;
            spot.watch = watch;
            Spot[] more = new Spot[hills.length + 1];
            System.arraycopy(hills, 0, more, 0, hills.length);
            more[hills.length] = spot;
            hills = more;
            return hills.length - 1;
        }

        private String ask(int call, int a, int b) {
            switch (call) {
                case 12: return "" + hills[a].wood;
                case 13: return "" + hills[a].damp;
                case 14: return "" + hills[a].watch;
                case 15: return "" + hills[a].east;
                case 16: return "" + hills[a].post;
                case 17: return "" + miles[a][b];
                case 18: return "" + sees(a, b);
                case 19: return "" + steps(a, b);
                case 20: return "" + (hills[a].source == null);
                case 21: return "" + hills[a].burns();
                case 22: return "" + Math.max(0, hills[a].kindling);
                case 23: return "" + hills[a].looking;
                case 24: return "" + hills[a].source;
                case 25: return "" + (hills[a].source != null && hills[a].source == -1);
                case 26: return "" + hills[a].answers;
                case 27: return "" + hills.length;
                case 28: return "" + minute;
                case 29: return "" + haze;
                case 30: return "" + glow;
                case 31: return "" + burning();
                case 32: return "" + lit;
                case 33: return "" + mistakes;
                case 34: return "" + until(a);
                case 35: return "" + after(a + b).burning();
                case 36: return "" + reach(a);
                case 37: return "" + best();
                case 38: return "" + mean();
                case 40: return "" + digest();
                default: return "";
            }
        }
    }
}
