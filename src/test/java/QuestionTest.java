/** Promises 13 to 34: what hills are, fires, and what there is. */
public final class QuestionTest {
    public static void main(String[] args) {
        promises13To17HillsThemselves();
        promise18MilesBetween();
        promise19CanSee();
        promise20FewestSteps();
        promises21To23FiresGoOn();
        promise24LookingFor();
        promise25SourceOf();
        promise26IsMistaken();
        promise27AnswersTo();
        promises28To34WhatThereIs();
        refusesOtherHills();
        refusesOtherPairs();
        changesNothing();
        Expect.end();
    }

    private static HillBeacons landOf(int hills) {
        return Lands.of(hills, 20, 0, 1);
    }

    private static void promises13To17HillsThemselves() {
        HillBeacons land = new HillBeacons();
        land.addHill(4, 3, 2);
        land.addHill(30, 9, 5);
        land.turnEast(0);
        land.turnPost(1);
        Expect.same("woodOf(0)", land.woodOf(0), 4);
        Expect.same("woodOf(1)", land.woodOf(1), 30);
        Expect.same("dampOf(0)", land.dampOf(0), 3);
        Expect.same("dampOf(1)", land.dampOf(1), 9);
        Expect.same("watchOf(0)", land.watchOf(0), 2);
        Expect.same("watchOf(1)", land.watchOf(1), 5);
        Expect.same("looksEast(0)", land.looksEast(0), true);
        Expect.same("looksEast(1)", land.looksEast(1), false);
        Expect.same("isPost(0)", land.isPost(0), false);
        Expect.same("isPost(1)", land.isPost(1), true);
        land.light(0);
        land.passMinutes(100);
        Expect.same("wood, burnt down", land.woodOf(0), 0);
        Expect.same("damp stays", land.dampOf(0), 3);
    }

    private static void promise18MilesBetween() {
        HillBeacons land = landOf(3);
        land.setSight(2, 1, 20);
        land.setHaze(9);
        Expect.same("milesBetween(1, 2)", land.milesBetween(1, 2), 20);
        Expect.same("milesBetween(2, 1)", land.milesBetween(2, 1), 20);
        Expect.same("milesBetween(0, 1)", land.milesBetween(0, 1), 0);
        Expect.same("milesBetween(1, 1)", land.milesBetween(1, 1), 0);
    }

    private static void promise19CanSee() {
        for (int haze = 0; haze <= 9; haze++) {
            HillBeacons land = landOf(2);
            land.setHaze(haze);
            for (int miles = 0; miles <= 20; miles++) {
                land.setSight(0, 1, miles);
                boolean due = miles > 0 && miles <= 20 - 2 * haze;
                String what = "canSee over " + miles + " miles with haze " + haze;
                Expect.same(what, land.canSee(0, 1), due);
                Expect.same(what + ", back", land.canSee(1, 0), due);
            }
            Expect.same("canSee of one hill", land.canSee(1, 1), false);
        }
    }

    private static void promise20FewestSteps() {
        HillBeacons land = landOf(10);
        for (int i = 0; i < 9; i++) {
            land.setSight(i, i + 1, 20);
        }
        for (int i = 0; i < 10; i++) {
            for (int j = 0; j < 10; j++) {
                Expect.same("steps " + i + " " + j, land.fewestSteps(i, j), Math.abs(i - j));
            }
        }
        land.setSight(1, 7, 3);
        Expect.same("steps by the short way", land.fewestSteps(0, 9), 4);
        land.setSight(4, 5, 0);
        Expect.same("steps round", land.fewestSteps(4, 5), 6);
        land.setHaze(1);
        Expect.same("steps in haze", land.fewestSteps(1, 7), 1);
        Expect.same("no steps in haze", land.fewestSteps(0, 1), -1);
        Expect.same("steps to itself", land.fewestSteps(0, 0), 0);
    }

    private static void promises21To23FiresGoOn() {
        HillBeacons land = new HillBeacons();
        land.addHill(1, 2, 1);
        boolean[] dark = {false, false, false, false, true};
        boolean[] burning = {false, false, false, true, false};
        int[] left = {3, 2, 1, 0, 0};
        Expect.same("dark at first", land.isDark(0), true);
        land.light(0);
        for (int i = 0; i < dark.length; i++) {
            Expect.same("isDark after " + i, land.isDark(0), dark[i]);
            Expect.same("isBurning after " + i, land.isBurning(0), burning[i]);
            Expect.same("minutesToBurn after " + i, land.minutesToBurn(0), left[i]);
            land.passMinutes(1);
        }
    }

    private static void promise24LookingFor() {
        HillBeacons land = new HillBeacons();
        land.addHill(5, 0, 5);
        land.turnEast(0);
        land.glow(30);
        for (int i = 0; i < 5; i++) {
            Expect.same("lookingFor after " + i, land.lookingFor(0), i);
            land.passMinutes(1);
        }
        Expect.same("lookingFor, lit", land.lookingFor(0), 0);
        Expect.same("it is lit", land.isDark(0), false);
    }

    private static void promise25SourceOf() {
        HillBeacons land = landOf(3);
        land.setSight(0, 1, 1);
        land.turnEast(2);
        land.glow(1);
        Expect.refused("sourceOf a dark hill", Expect.BAD_STATE, land, () -> land.sourceOf(0));
        land.light(0);
        land.passMinutes(2);
        Expect.same("sourceOf(0)", land.sourceOf(0), 0);
        Expect.same("sourceOf(1)", land.sourceOf(1), 0);
        Expect.same("sourceOf(2)", land.sourceOf(2), -1);
        land.douse(1);
        Expect.refused("sourceOf a doused hill", Expect.BAD_STATE, land, () -> land.sourceOf(1));
        land.passMinutes(100);
        Expect.refused("sourceOf a burnt hill", Expect.BAD_STATE, land, () -> land.sourceOf(0));
    }

    private static void promise26IsMistaken() {
        HillBeacons land = new HillBeacons();
        land.addHill(2, 1, 1);
        land.addHill(2, 1, 1);
        land.turnEast(0);
        land.glow(1);
        Expect.same("dark", land.isMistaken(0), false);
        land.light(1);
        land.passMinutes(1);
        Expect.same("kindling by mistake", land.isMistaken(0), true);
        Expect.same("kindling by hand", land.isMistaken(1), false);
        land.passMinutes(2);
        Expect.same("burning by mistake", land.isMistaken(0), true);
        land.passMinutes(2);
        Expect.same("burnt", land.isMistaken(0), false);
        Expect.same("it is dark", land.isDark(0), true);
    }

    private static void promise27AnswersTo() {
        HillBeacons land = landOf(4);
        land.setSight(0, 1, 2);
        land.setSight(1, 2, 2);
        land.setSight(2, 3, 2);
        land.turnPost(2);
        land.turnPost(3);
        land.light(0);
        int[] due = {0, 0, 0, 0, 0, 1, 1, 2, 2};
        for (int i = 0; i < due.length; i++) {
            Expect.same("answersTo(0) after " + i, land.answersTo(0), due[i]);
            Expect.same("answersTo(1) after " + i, land.answersTo(1), 0);
            land.passMinutes(1);
        }
        land.douse(3);
        land.passMinutes(2);
        Expect.same("a post answers again", land.answersTo(0), 3);
        land.douse(0);
        land.passMinutes(1);
        Expect.same("lit by others it is the same", land.answersTo(0), 3);
    }

    private static void promises28To34WhatThereIs() {
        HillBeacons land = landOf(3);
        land.setHaze(2);
        land.turnEast(1);
        land.setSight(1, 2, 16);
        land.glow(7);
        land.light(0);
        land.passMinutes(1);
        Expect.same("hills()", land.hills(), 3);
        Expect.same("minute()", land.minute(), 1);
        Expect.same("haze()", land.haze(), 2);
        Expect.same("glowLeft()", land.glowLeft(), 6);
        Expect.same("burningHills()", land.burningHills(), 1);
        Expect.same("timesLit()", land.timesLit(), 2);
        Expect.same("timesMistaken()", land.timesMistaken(), 1);
        land.passMinutes(6);
        Expect.same("glowLeft() then", land.glowLeft(), 0);
        Expect.same("burningHills() then", land.burningHills(), 3);
        Expect.same("timesLit() then", land.timesLit(), 3);
        Expect.same("timesMistaken() then", land.timesMistaken(), 2);
        land.passMinutes(93);
        Expect.same("minute() then", land.minute(), 100);
        Expect.same("burningHills() at last", land.burningHills(), 0);
        Expect.same("timesLit() at last", land.timesLit(), 3);
    }

    private static void refusesOtherHills() {
        for (int hills = 0; hills <= 10; hills += 5) {
            HillBeacons land = landOf(hills);
            Expect.refusesOtherHills("woodOf", land, hill -> land.woodOf(hill));
            Expect.refusesOtherHills("dampOf", land, hill -> land.dampOf(hill));
            Expect.refusesOtherHills("watchOf", land, hill -> land.watchOf(hill));
            Expect.refusesOtherHills("looksEast", land, hill -> land.looksEast(hill));
            Expect.refusesOtherHills("isPost", land, hill -> land.isPost(hill));
            Expect.refusesOtherHills("isDark", land, hill -> land.isDark(hill));
            Expect.refusesOtherHills("isBurning", land, hill -> land.isBurning(hill));
            Expect.refusesOtherHills("minutesToBurn", land, hill -> land.minutesToBurn(hill));
            Expect.refusesOtherHills("lookingFor", land, hill -> land.lookingFor(hill));
            Expect.refusesOtherHills("sourceOf", land, hill -> land.sourceOf(hill));
            Expect.refusesOtherHills("isMistaken", land, hill -> land.isMistaken(hill));
            Expect.refusesOtherHills("answersTo", land, hill -> land.answersTo(hill));
        }
    }

    private static void refusesOtherPairs() {
        HillBeacons land = landOf(5);
        Expect.refusesOtherHills("milesBetween a", land, hill -> land.milesBetween(hill, 0));
        Expect.refusesOtherHills("milesBetween b", land, hill -> land.milesBetween(0, hill));
        Expect.refusesOtherHills("milesBetween", land, hill -> land.milesBetween(hill, hill));
        Expect.refusesOtherHills("canSee a", land, hill -> land.canSee(hill, 0));
        Expect.refusesOtherHills("canSee b", land, hill -> land.canSee(0, hill));
        Expect.refusesOtherHills("canSee", land, hill -> land.canSee(hill, hill));
        Expect.refusesOtherHills("fewestSteps a", land, hill -> land.fewestSteps(hill, 0));
        Expect.refusesOtherHills("fewestSteps b", land, hill -> land.fewestSteps(0, hill));
        Expect.refusesOtherHills("fewestSteps", land, hill -> land.fewestSteps(hill, hill));
    }

    private static void changesNothing() {
        HillBeacons land = landOf(3);
        land.setSight(0, 1, 5);
        land.light(0);
        land.passMinutes(2);
        Expect.unchanged("asking", land, () -> {
            land.woodOf(1);
            land.milesBetween(0, 1);
            land.canSee(0, 1);
            land.fewestSteps(0, 2);
            land.isDark(1);
            land.sourceOf(1);
            land.lookingFor(2);
            land.answersTo(0);
            land.burningHills();
            land.digest();
        });
    }
}
