/**
 * Each refused call throws what the document names, the first that applies, and changes nothing: the
 * land stays as its twin, of the same calls but for the refused ones, now and from then on.
 */
public final class RefusalTest {
    private static final int[] ANY_NUMBER = {-1, 0, 1, 5, 9, 10, 11, 20, 21, 30, 31, 100, 101,
        Integer.MIN_VALUE, Integer.MAX_VALUE};

    private interface Maker {
        HillBeacons make();
    }

    private interface Refusals {
        void of(HillBeacons land);
    }

    public static void main(String[] args) {
        Document.says("Terms", "A method that throws an exception changes nothing.");
        for (int hills = 0; hills <= 10; hills++) {
            int several = hills;
            refuseWhatNoLandTakes(hills, () -> Lands.lineOf(several, 9, 1, 2));
        }
        refuseWhatNoLandTakes(9, () -> Lands.inFlames(9));
        refuseWhatNoLandTakes(10, () -> Lands.inFlames(10));
        changesNothing(() -> Lands.inFlames(9), RefusalTest::badStates);
        changesNothing(() -> Lands.inFlames(10), RefusalTest::badStates);
        changesNothing(() -> Lands.inFlames(10), RefusalTest::anEleventhHill);
        changesNothing(() -> Lands.of(10, 0, 9, 5), RefusalTest::anEleventhHill);
        changesNothing(() -> Lands.of(10, 0, 0, 1), RefusalTest::allTenWithoutWood);
        landInFlamesIsAsItIsTold();
        Document.says("Terms", "If several exceptions apply, the one that is named first is thrown.");
        changesNothing(() -> Lands.inFlames(10), RefusalTest::badNumbers);
        for (int x : ANY_NUMBER) {
            changesNothing(() -> new HillBeacons(), land -> otherHillAndNumber(land, x));
            changesNothing(() -> Lands.inFlames(9), land -> otherHillAndNumber(land, x));
            changesNothing(() -> Lands.inFlames(10), land -> otherHillAndNumber(land, x));
        }
        Expect.end();
    }

    /** Each group of refusals begins anew, as an object is used for 512 calls only. */
    private static void refuseWhatNoLandTakes(int hills, Maker maker) {
        changesNothing(maker, RefusalTest::otherHills);
        changesNothing(maker, RefusalTest::otherHillAsBoth);
        changesNothing(maker, RefusalTest::badNumbers);
        for (int i = 0; i < hills; i++) {
            int hill = i;
            changesNothing(maker, land -> otherHillBeside(land, hill));
            changesNothing(maker, land -> badNumbersOf(land, hill));
        }
    }

    private static void changesNothing(Maker maker, Refusals refusals) {
        HillBeacons land = maker.make();
        refusals.of(land);
        Expect.sameFromNowOn("a land that refused", land, maker.make());
    }

    private static void otherHills(HillBeacons land) {
        Expect.refusesOtherHills("turnEast", land, hill -> land.turnEast(hill));
        Expect.refusesOtherHills("turnPost", land, hill -> land.turnPost(hill));
        Expect.refusesOtherHills("bringWood", land, hill -> land.bringWood(hill, 5));
        Expect.refusesOtherHills("setDamp", land, hill -> land.setDamp(hill, 5));
        Expect.refusesOtherHills("light", land, hill -> land.light(hill));
        Expect.refusesOtherHills("douse", land, hill -> land.douse(hill));
        Expect.refusesOtherHills("woodOf", land, hill -> land.woodOf(hill));
        Expect.refusesOtherHills("dampOf", land, hill -> land.dampOf(hill));
        Expect.refusesOtherHills("watchOf", land, hill -> land.watchOf(hill));
        Expect.refusesOtherHills("looksEast", land, hill -> land.looksEast(hill));
        Expect.refusesOtherHills("isPost", land, hill -> land.isPost(hill));
        Expect.refusesOtherHills("isDark", land, hill -> land.isDark(hill));
        Expect.refusesOtherHills("isBurning", land, hill -> land.isBurning(hill));
        Expect.refusesOtherHills("minutesToBurn", land, hill -> land.minutesToBurn(hill));
        Expect.refusesOtherHills("lookingFor", land, hill -> land.lookingFor(hill));
        Expect.refusesOtherHills("sourceOf", land, hill -> land.sourceOf(hill));
        Expect.refusesOtherHills("isMistaken", land, hill -> land.isMistaken(hill));
        Expect.refusesOtherHills("answersTo", land, hill -> land.answersTo(hill));
        Expect.refusesOtherHills("minutesUntilBurning", land, hill -> land.minutesUntilBurning(hill));
        Expect.refusesOtherHills("reachOf", land, hill -> land.reachOf(hill));
    }

    private static void otherHillBeside(HillBeacons land, int here) {
        Expect.refusesOtherHills("setSight, first", land, hill -> land.setSight(hill, here, 5));
        Expect.refusesOtherHills("setSight, second", land, hill -> land.setSight(here, hill, 5));
        Expect.refusesOtherHills("milesBetween, first", land, hill -> land.milesBetween(hill, here));
        Expect.refusesOtherHills("milesBetween, second", land, hill -> land.milesBetween(here, hill));
        Expect.refusesOtherHills("canSee, first", land, hill -> land.canSee(hill, here));
        Expect.refusesOtherHills("canSee, second", land, hill -> land.canSee(here, hill));
        Expect.refusesOtherHills("fewestSteps, first", land, hill -> land.fewestSteps(hill, here));
        Expect.refusesOtherHills("fewestSteps, second", land, hill -> land.fewestSteps(here, hill));
    }

    private static void otherHillAsBoth(HillBeacons land) {
        Expect.refusesOtherHills("setSight, both", land, hill -> land.setSight(hill, hill, 5));
        Expect.refusesOtherHills("milesBetween, both", land, hill -> land.milesBetween(hill, hill));
        Expect.refusesOtherHills("canSee, both", land, hill -> land.canSee(hill, hill));
        Expect.refusesOtherHills("fewestSteps, both", land, hill -> land.fewestSteps(hill, hill));
    }

    private static void badNumber(String what, HillBeacons land, int number, int least, int most,
            Expect.Call call) {
        if (number < least || number > most) {
            Expect.refused(what + " of " + number, Expect.BAD_NUMBER, land, call);
        }
    }

    // In a land of ten hills, addHill has two reasons to refuse, of which this is named first.
    private static void badNumbers(HillBeacons land) {
        for (int x : ANY_NUMBER) {
            badNumber("addHill, wood", land, x, 0, 30, () -> land.addHill(x, 0, 1));
            badNumber("addHill, damp", land, x, 0, 9, () -> land.addHill(5, x, 1));
            badNumber("addHill, watch", land, x, 1, 5, () -> land.addHill(5, 0, x));
            badNumber("setHaze", land, x, 0, 9, () -> land.setHaze(x));
            badNumber("glow", land, x, 0, 30, () -> land.glow(x));
            badNumber("passMinutes", land, x, 1, 100, () -> land.passMinutes(x));
            badNumber("burningAfter", land, x, 1, 100, () -> land.burningAfter(x));
        }
    }

    private static void badNumbersOf(HillBeacons land, int hill) {
        Expect.refused("setSight, the same", Expect.BAD_NUMBER, land,
                () -> land.setSight(hill, hill, 1));
        for (int x : ANY_NUMBER) {
            badNumber("setSight, the same", land, x, 0, 20, () -> land.setSight(hill, hill, x));
            badNumber("bringWood", land, x, 1, 30, () -> land.bringWood(hill, x));
            badNumber("setDamp", land, x, 0, 9, () -> land.setDamp(hill, x));
            if (land.hills() > 1) {
                int next = hill == 0 ? 1 : 0;
                badNumber("setSight", land, x, 0, 20, () -> land.setSight(hill, next, x));
            }
        }
    }

    private static void badStates(HillBeacons land) {
        for (int i = 0; i < land.hills(); i++) {
            int hill = i;
            if (land.isDark(i)) {
                Expect.refused("douse", Expect.BAD_STATE, land, () -> land.douse(hill));
                Expect.refused("sourceOf", Expect.BAD_STATE, land, () -> land.sourceOf(hill));
            }
            if (!land.isDark(i) || land.woodOf(i) == 0) {
                Expect.refused("light", Expect.BAD_STATE, land, () -> land.light(hill));
                Expect.refused("reachOf", Expect.BAD_STATE, land, () -> land.reachOf(hill));
            }
        }
    }

    private static void anEleventhHill(HillBeacons land) {
        int[][] hills = {{0, 0, 1}, {30, 9, 5}, {5, 5, 3}};
        for (int[] hill : hills) {
            Expect.refused("addHill", Expect.BAD_STATE, land,
                    () -> land.addHill(hill[0], hill[1], hill[2]));
        }
    }

    private static void allTenWithoutWood(HillBeacons land) {
        for (int i = 0; i < 10; i++) {
            int hill = i;
            Expect.refused("light", Expect.BAD_STATE, land, () -> land.light(hill));
            Expect.refused("reachOf", Expect.BAD_STATE, land, () -> land.reachOf(hill));
        }
    }

    private static void otherHillAndNumber(HillBeacons land, int x) {
        Expect.refusesOtherHills("setSight, both", land, hill -> land.setSight(hill, hill, x));
        Expect.refusesOtherHills("setSight, first", land, hill -> land.setSight(hill, 0, x));
        Expect.refusesOtherHills("setSight, second", land, hill -> land.setSight(0, hill, x));
        Expect.refusesOtherHills("bringWood", land, hill -> land.bringWood(hill, x));
        Expect.refusesOtherHills("setDamp", land, hill -> land.setDamp(hill, x));
    }

    /** The refusals above are of use only if this land has each kind of fire. */
    private static void landInFlamesIsAsItIsTold() {
        HillBeacons land = Lands.inFlames(10);
        Expect.same("fires", Lands.fires(land), "bkdbdbkdbd");
        Expect.same("looking", Lands.looking(land), "0030000000");
        Expect.same("answers to 0", land.answersTo(0), 1);
        Expect.same("mistakes", land.timesMistaken(), 1);
        Expect.same("wood of 4", land.woodOf(4), 0);
        Expect.same("wood of 8", land.woodOf(8), 0);
        Expect.same("glow left", land.glowLeft(), 2);
    }
}
