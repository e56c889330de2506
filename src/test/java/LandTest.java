/** Promises 1 to 8: the land. */
public final class LandTest {
    public static void main(String[] args) {
        promise1NewObject();
        promise2AddHill();
        promise2AddHillRefuses();
        promise2NewHillIsBare();
        promise3SetSight();
        promise3SetSightRefuses();
        promise4TurnEast();
        promise5TurnPost();
        promise6BringWood();
        promise7SetDamp();
        promise8SetHaze();
        Expect.end();
    }

    private static HillBeacons landOf(int hills) {
        return Lands.of(hills, 10, 0, 1);
    }

    private static void promise1NewObject() {
        HillBeacons land = new HillBeacons();
        Expect.same("hills of a new land", land.hills(), 0);
        Expect.same("minute of a new land", land.minute(), 0);
        Expect.same("haze of a new land", land.haze(), 0);
        Expect.same("glow of a new land", land.glowLeft(), 0);
        Expect.same("burning in a new land", land.burningHills(), 0);
        Expect.same("lit in a new land", land.timesLit(), 0);
        Expect.same("mistaken in a new land", land.timesMistaken(), 0);
        Expect.same("best hill of a new land", land.bestHill(), -1);
        Expect.same("passing in a new land", land.passMinutes(3), 0);
        Expect.same("minute then", land.minute(), 3);
        Expect.same("another land's minute", new HillBeacons().minute(), 0);
    }

    private static void promise2AddHill() {
        HillBeacons land = new HillBeacons();
        for (int i = 0; i < 10; i++) {
            Expect.same("number of hill " + i, land.addHill(i, 9 - i, 1 + i % 5), i);
            Expect.same("hills then", land.hills(), i + 1);
        }
        for (int i = 0; i < 10; i++) {
            Expect.same("wood of hill " + i, land.woodOf(i), i);
            Expect.same("damp of hill " + i, land.dampOf(i), 9 - i);
            Expect.same("watch of hill " + i, land.watchOf(i), 1 + i % 5);
        }
        HillBeacons edges = new HillBeacons();
        Expect.same("the least hill", edges.addHill(0, 0, 1), 0);
        Expect.same("the greatest hill", edges.addHill(30, 9, 5), 1);
        Expect.same("wood of the greatest", edges.woodOf(1), 30);
    }

    private static void promise2AddHillRefuses() {
        int[][] wrong = {
            {-1, 0, 1}, {31, 0, 1}, {5, -1, 1}, {5, 10, 1}, {5, 0, 0}, {5, 0, 6}, {5, 0, -1},
            {Integer.MIN_VALUE, 0, 1}, {Integer.MAX_VALUE, 0, 1},
            {5, Integer.MIN_VALUE, 1}, {5, Integer.MAX_VALUE, 1},
            {5, 0, Integer.MIN_VALUE}, {5, 0, Integer.MAX_VALUE},
        };
        HillBeacons some = landOf(9);
        HillBeacons full = landOf(10);
        for (int[] hill : wrong) {
            String what = "addHill(" + hill[0] + ", " + hill[1] + ", " + hill[2] + ")";
            Expect.refused(what, Expect.BAD_NUMBER, some, () -> some.addHill(hill[0], hill[1], hill[2]));
            Expect.refused(what + " when full", Expect.BAD_NUMBER, full,
                    () -> full.addHill(hill[0], hill[1], hill[2]));
        }
        Expect.refused("addHill when full", Expect.BAD_STATE, full, () -> full.addHill(5, 0, 1));
        Expect.same("addHill after refusals", some.addHill(5, 0, 1), 9);
    }

    private static void promise2NewHillIsBare() {
        HillBeacons land = landOf(2);
        Expect.same("looks east at first", land.looksEast(1), false);
        Expect.same("is a post at first", land.isPost(1), false);
        Expect.same("is dark at first", land.isDark(1), true);
        Expect.same("is burning at first", land.isBurning(1), false);
        Expect.same("minutes to burn at first", land.minutesToBurn(1), 0);
        Expect.same("looking at first", land.lookingFor(1), 0);
        Expect.same("mistaken at first", land.isMistaken(1), false);
        Expect.same("answers at first", land.answersTo(1), 0);
        Expect.same("sight at first", land.milesBetween(0, 1), 0);
    }

    private static void promise3SetSight() {
        HillBeacons land = landOf(10);
        Expect.same("setSight(0, 9, 1)", land.setSight(0, 9, 1), 0);
        Expect.same("setSight(9, 0, 20)", land.setSight(9, 0, 20), 1);
        Expect.same("miles from 0 to 9", land.milesBetween(0, 9), 20);
        Expect.same("miles from 9 to 0", land.milesBetween(9, 0), 20);
        Expect.same("setSight(0, 9, 0)", land.setSight(0, 9, 0), 20);
        Expect.same("setSight(9, 0, 0)", land.setSight(9, 0, 0), 0);
        Expect.same("miles of no sight", land.milesBetween(0, 9), 0);
        for (int a = 0; a < 10; a++) {
            for (int b = 0; b < a; b++) {
                land.setSight(a, b, 1 + (a + b) % 20);
            }
        }
        for (int a = 0; a < 10; a++) {
            for (int b = 0; b < 10; b++) {
                Expect.same("miles " + a + " " + b, land.milesBetween(a, b),
                        a == b ? 0 : 1 + (a + b) % 20);
            }
        }
    }

    private static void promise3SetSightRefuses() {
        HillBeacons land = landOf(3);
        land.setSight(0, 1, 7);
        int[][] nowhere = {{3, 0}, {0, 3}, {-1, 0}, {0, -1}, {3, 3}, {-1, -1}, {10, 0}, {0, 10},
            {Integer.MIN_VALUE, 0}, {0, Integer.MIN_VALUE}, {Integer.MAX_VALUE, 0},
            {0, Integer.MAX_VALUE}};
        for (int[] pair : nowhere) {
            String what = "setSight(" + pair[0] + ", " + pair[1] + ")";
            Expect.refused(what, Expect.NO_SUCH_HILL, land, () -> land.setSight(pair[0], pair[1], 5));
            Expect.refused(what + " with 21 miles", Expect.NO_SUCH_HILL, land,
                    () -> land.setSight(pair[0], pair[1], 21));
        }
        Expect.refused("setSight(1, 1, 5)", Expect.BAD_NUMBER, land, () -> land.setSight(1, 1, 5));
        Expect.refused("setSight(1, 1, 0)", Expect.BAD_NUMBER, land, () -> land.setSight(1, 1, 0));
        int[] wrong = {-1, 21, Integer.MIN_VALUE, Integer.MAX_VALUE};
        for (int miles : wrong) {
            Expect.refused("setSight(0, 1, " + miles + ")", Expect.BAD_NUMBER, land,
                    () -> land.setSight(0, 1, miles));
        }
    }

    private static void promise4TurnEast() {
        HillBeacons land = landOf(2);
        Expect.same("turnEast once", land.turnEast(1), true);
        Expect.same("looksEast then", land.looksEast(1), true);
        Expect.same("looksEast of the other", land.looksEast(0), false);
        Expect.same("isPost then", land.isPost(1), false);
        Expect.same("turnEast twice", land.turnEast(1), false);
        Expect.same("looksEast at last", land.looksEast(1), false);
        Expect.refusesOtherHills("turnEast", land, hill -> land.turnEast(hill));
    }

    private static void promise5TurnPost() {
        HillBeacons land = landOf(2);
        Expect.same("turnPost once", land.turnPost(0), true);
        Expect.same("isPost then", land.isPost(0), true);
        Expect.same("isPost of the other", land.isPost(1), false);
        Expect.same("looksEast then", land.looksEast(0), false);
        Expect.same("turnPost twice", land.turnPost(0), false);
        Expect.same("isPost at last", land.isPost(0), false);
        Expect.refusesOtherHills("turnPost", land, hill -> land.turnPost(hill));
    }

    private static void promise6BringWood() {
        HillBeacons land = landOf(2);
        Expect.same("bringWood(0, 1)", land.bringWood(0, 1), 11);
        Expect.same("woodOf(0)", land.woodOf(0), 11);
        Expect.same("woodOf(1)", land.woodOf(1), 10);
        Expect.same("bringWood(0, 19)", land.bringWood(0, 19), 30);
        Expect.same("bringWood(0, 1) to 30", land.bringWood(0, 1), 30);
        Expect.same("bringWood(1, 30)", land.bringWood(1, 30), 30);
        Expect.same("woodOf(1) then", land.woodOf(1), 30);
        land.light(1);
        Expect.same("bringWood to a fire", land.bringWood(1, 1), 30);
        Expect.refusesOtherHills("bringWood", land, hill -> land.bringWood(hill, 5));
        Expect.refusesOtherHills("bringWood of 0", land, hill -> land.bringWood(hill, 0));
        int[] wrong = {0, 31, -1, Integer.MIN_VALUE, Integer.MAX_VALUE};
        for (int bundles : wrong) {
            Expect.refused("bringWood(0, " + bundles + ")", Expect.BAD_NUMBER, land,
                    () -> land.bringWood(0, bundles));
        }
    }

    private static void promise7SetDamp() {
        HillBeacons land = landOf(2);
        Expect.same("setDamp(0, 9)", land.setDamp(0, 9), 0);
        Expect.same("dampOf(0)", land.dampOf(0), 9);
        Expect.same("dampOf(1)", land.dampOf(1), 0);
        Expect.same("setDamp(0, 4)", land.setDamp(0, 4), 9);
        land.light(0);
        Expect.same("setDamp(0, 0)", land.setDamp(0, 0), 4);
        Expect.same("a kindling fire takes as long", land.minutesToBurn(0), 5);
        Expect.refusesOtherHills("setDamp", land, hill -> land.setDamp(hill, 5));
        Expect.refusesOtherHills("setDamp to 10", land, hill -> land.setDamp(hill, 10));
        int[] wrong = {-1, 10, Integer.MIN_VALUE, Integer.MAX_VALUE};
        for (int damp : wrong) {
            Expect.refused("setDamp(0, " + damp + ")", Expect.BAD_NUMBER, land,
                    () -> land.setDamp(0, damp));
        }
    }

    private static void promise8SetHaze() {
        HillBeacons land = landOf(1);
        Expect.same("setHaze(9)", land.setHaze(9), 0);
        Expect.same("haze then", land.haze(), 9);
        Expect.same("setHaze(0)", land.setHaze(0), 9);
        Expect.same("setHaze(4)", land.setHaze(4), 0);
        int[] wrong = {-1, 10, Integer.MIN_VALUE, Integer.MAX_VALUE};
        for (int haze : wrong) {
            Expect.refused("setHaze(" + haze + ")", Expect.BAD_NUMBER, land, () -> land.setHaze(haze));
        }
    }
}
