/** Promises 35 to 40: what would be. */
public final class ForecastTest {
    public static void main(String[] args) {
        promise35MinutesUntilBurning();
        promise35WaitsFor150Minutes();
        promises35To37GoOnFromNow();
        promise36BurningAfter();
        promise37ReachOf();
        promise37ReachOfLooks100Minutes();
        promise37ReachOfCountsWhatBurnsAlready();
        promise37ReachOfRefuses();
        promise38BestHill();
        promise39MeanWood();
        promise40Digest();
        Expect.end();
    }

    private static void promise35MinutesUntilBurning() {
        HillBeacons land = Lands.lineOf(4, 20, 2, 2);
        land.setSight(2, 3, 0);
        Expect.same("nothing is lit", land.minutesUntilBurning(0), -1);
        land.light(0);
        Expect.unchanged("minutesUntilBurning", land, () -> land.minutesUntilBurning(2));
        Expect.same("the lit hill", land.minutesUntilBurning(0), 3);
        Expect.same("the next", land.minutesUntilBurning(1), 8);
        Expect.same("the one behind", land.minutesUntilBurning(2), 13);
        Expect.same("the one apart", land.minutesUntilBurning(3), -1);
        land.passMinutes(13);
        Expect.same("burning now", land.minutesUntilBurning(2), 0);
        land.passMinutes(100);
        Expect.same("burnt", land.minutesUntilBurning(0), -1);
        Expect.refusesOtherHills("minutesUntilBurning", land,
                hill -> land.minutesUntilBurning(hill));
    }

    private static void promise35WaitsFor150Minutes() {
        // Of the slowest hills, each takes 15 minutes behind the one before it.
        HillBeacons byHand = Lands.lineOf(10, 30, 9, 5);
        byHand.light(0);
        for (int i = 0; i < 10; i++) {
            Expect.same("by hand, hill " + i, byHand.minutesUntilBurning(i), 10 + 15 * i);
        }
        HillBeacons byGlow = Lands.lineOf(10, 30, 9, 5);
        byGlow.turnEast(0);
        byGlow.glow(5);
        for (int i = 0; i < 10; i++) {
            Expect.same("by the glow, hill " + i, byGlow.minutesUntilBurning(i), 15 + 15 * i);
        }
        Expect.same("no minute went by", byGlow.minute(), 0);
    }

    private static void promises35To37GoOnFromNow() {
        HillBeacons land = Lands.lineOf(2, 30, 0, 4);
        land.light(0);
        land.passMinutes(3);
        Expect.same("looking already", land.lookingFor(1), 2);
        Expect.same("the watch goes on", land.minutesUntilBurning(1), 3);
        Expect.same("burning after 2", land.burningAfter(2), 1);
        Expect.same("burning after 3", land.burningAfter(3), 2);
        land.setHaze(8);
        Expect.same("not in the haze", land.minutesUntilBurning(1), -1);
        Expect.same("burning in the haze", land.burningAfter(3), 1);
        Expect.same("reach in the haze", land.reachOf(1), 1);
        land.setHaze(7);
        Expect.same("in less haze", land.minutesUntilBurning(1), 3);
        land.douse(0);
        Expect.same("reach in less haze", land.reachOf(0), 2);
        Expect.same("a forecast leaves nothing to the next", land.minutesUntilBurning(1), -1);
        land.turnEast(1);
        land.glow(2);
        Expect.same("the glow goes on", land.minutesUntilBurning(1), 3);
        land.glow(1);
        Expect.same("a shorter one is not enough", land.minutesUntilBurning(1), -1);
    }

    private static void promise36BurningAfter() {
        HillBeacons land = Lands.lineOf(3, 3, 0, 1);
        land.light(0);
        int[] due = {1, 1, 2, 1, 2, 1, 1, 0, 0};
        Expect.unchanged("burningAfter", land, () -> land.burningAfter(9));
        for (int i = 0; i < due.length; i++) {
            Expect.same("burningAfter(" + (i + 1) + ")", land.burningAfter(i + 1), due[i]);
        }
        Expect.same("burningAfter(100)", land.burningAfter(100), 0);
        int[] wrong = {0, -1, 101, Integer.MIN_VALUE, Integer.MAX_VALUE};
        for (int minutes : wrong) {
            Expect.refused("burningAfter(" + minutes + ")", Expect.BAD_NUMBER, land,
                    () -> land.burningAfter(minutes));
        }
    }

    private static void promise37ReachOf() {
        HillBeacons land = Lands.lineOf(5, 20, 0, 1);
        Expect.unchanged("reachOf", land, () -> land.reachOf(0));
        Expect.same("reach along the line", land.reachOf(0), 5);
        Expect.same("reach from the middle", land.reachOf(2), 5);
        land.setSight(1, 2, 0);
        Expect.same("reach of two", land.reachOf(0), 2);
        Expect.same("reach of three", land.reachOf(4), 3);
        land.setSight(0, 1, 0);
        Expect.same("reach of one", land.reachOf(0), 1);
        HillBeacons brief = Lands.lineOf(3, 1, 0, 1);
        Expect.same("those count that burn only for a while", brief.reachOf(0), 3);
        HillBeacons slow = Lands.lineOf(3, 1, 0, 3);
        Expect.same("a short fire is not looked at for long enough", slow.reachOf(0), 1);
        HillBeacons two = Lands.lineOf(3, 30, 0, 1);
        two.light(2);
        Expect.same("of fires as near, the smaller number is the source", two.reachOf(0), 2);
        two.setSight(0, 1, 6);
        Expect.same("a farther fire is no source", two.reachOf(0), 1);
    }

    private static void promise37ReachOfLooks100Minutes() {
        // Lit by hand, the slowest hills burn behind 10, 25, 40, 55, 70 and 85 minutes.
        HillBeacons land = Lands.lineOf(7, 30, 9, 5);
        Expect.same("the seventh burns behind 100", land.reachOf(0), 7);
        land.setDamp(6, 7);
        land.addHill(30, 0, 1);
        land.setSight(6, 7, 5);
        Expect.same("the eighth burns behind 100", land.reachOf(0), 8);
        land.setDamp(6, 8);
        Expect.same("the eighth burns behind 101", land.reachOf(0), 7);
    }

    private static void promise37ReachOfCountsWhatBurnsAlready() {
        HillBeacons land = Lands.lineOf(2, 30, 0, 1);
        land.light(0);
        land.passMinutes(3);
        land.douse(0);
        land.setSight(0, 1, 0);
        Expect.same("a fire of an earlier signal", land.reachOf(0), 2);
        HillBeacons last = Lands.lineOf(2, 1, 0, 1);
        last.bringWood(0, 5);
        last.light(0);
        last.passMinutes(3);
        Expect.same("it burns without wood", last.isBurning(1), true);
        last.douse(0);
        last.setSight(0, 1, 0);
        Expect.same("one that burns only now", last.reachOf(0), 1);
    }

    private static void promise37ReachOfRefuses() {
        HillBeacons land = Lands.lineOf(2, 5, 1, 1);
        Expect.refusesOtherHills("reachOf", land, hill -> land.reachOf(hill));
        land.light(0);
        Expect.refused("reachOf a kindling hill", Expect.BAD_STATE, land, () -> land.reachOf(0));
        land.passMinutes(2);
        Expect.refused("reachOf a burning hill", Expect.BAD_STATE, land, () -> land.reachOf(0));
        HillBeacons bare = Lands.lineOf(1, 0, 0, 1);
        Expect.refused("reachOf without wood", Expect.BAD_STATE, bare, () -> bare.reachOf(0));
    }

    private static void promise38BestHill() {
        HillBeacons land = Lands.lineOf(5, 20, 0, 1);
        Expect.unchanged("bestHill", land, () -> land.bestHill());
        Expect.same("all reach all", land.bestHill(), 0);
        land.setSight(1, 2, 0);
        Expect.same("the longer part", land.bestHill(), 2);
        HillBeacons thin = Lands.lineOf(3, 1, 0, 2);
        Expect.same("each reaches itself alone", thin.bestHill(), 0);
        thin.bringWood(2, 1);
        Expect.same("the one with more wood", thin.bestHill(), 2);
        thin.light(2);
        Expect.same("the others cannot do so", thin.bestHill(), 0);
        thin.light(0);
        Expect.same("the last that can be lit", thin.bestHill(), 1);
        thin.light(1);
        Expect.same("none can be lit", thin.bestHill(), -1);
        Expect.same("none without wood", Lands.lineOf(10, 0, 0, 1).bestHill(), -1);
        Expect.same("none without hills", new HillBeacons().bestHill(), -1);
    }

    private static void promise39MeanWood() {
        Expect.same("mean of no hill", new HillBeacons().meanWood(), 0.0);
        HillBeacons land = new HillBeacons();
        land.addHill(5, 0, 1);
        Expect.same("mean of 5", land.meanWood(), 5.0);
        land.addHill(6, 0, 1);
        Expect.same("mean of 5 and 6", land.meanWood(), 5.5);
        land.addHill(0, 0, 1);
        Expect.same("mean of 5, 6 and 0", land.meanWood(), 11.0 / 3.0);
        land.light(0);
        Expect.same("mean as one is lit", land.meanWood(), 10.0 / 3.0);
        Expect.same("mean of 0", Lands.lineOf(3, 0, 0, 1).meanWood(), 0.0);
    }

    private static void promise40Digest() {
        long none = 1883;
        for (int i = 0; i < 7; i++) {
            none *= 31;
        }
        Expect.same("digest of a new land", new HillBeacons().digest(), none);
        HillBeacons land = new HillBeacons();
        land.addHill(7, 2, 4);
        land.addHill(9, 0, 1);
        land.addHill(30, 3, 1);
        land.setHaze(1);
        land.turnEast(1);
        land.turnPost(2);
        land.setSight(0, 2, 18);
        land.setSight(1, 2, 19);
        land.glow(9);
        land.light(2);
        land.passMinutes(5);
        long[] due = {
            3, 5, 1, 4, 2, 2, 1,
            7, 2, 4, 0, 0, 1, 0, 0, 1, -2, 0,
            5, 0, 1, 1, 0, 0, 1, 0, 0, -1, 0,
            28, 3, 1, 0, 1, 0, 1, 0, 0, 2, 1,
            0, 0, 0, 0, 18, 1,
            0, 0, 0, 0, 19, 0,
            18, 1, 19, 0, 0, 0,
        };
        long d = 1883;
        for (long x : due) {
            d = d * 31 + x;
        }
        Expect.same("digest", land.digest(), d);
    }
}
