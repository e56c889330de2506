/** The bounds that promises 1 to 12 name: one below and one above each, and each refused call. */
public final class CallBoundsTest {
    public static void main(String[] args) {
        promise1NoHills();
        promise2NumberOfTheHill();
        promise2Wood();
        promise2Damp();
        promise2Watch();
        promise2AnEleventhHill();
        promise3SetsBothWays();
        promise3ZeroIsNone();
        promise3NoneBefore();
        promise3NoSuchHill();
        promise3BothTheSame();
        promise3Miles();
        promise4TurnEast();
        promise4NoSuchHill();
        promise5TurnPost();
        promise5NoSuchHill();
        promise6UpTo30();
        promise6NoSuchHill();
        promise6Bundles();
        promise7KindlingTakesAsLong();
        promise7NoSuchHill();
        promise7Damp();
        promise8Haze();
        promise9SourceAndAnswers();
        promise9Minutes();
        promise9NoSuchHill();
        promise9NotDarkOrNoWood();
        promise10DarkThen();
        promise10NoSuchHill();
        promise10Dark();
        promise11InThePlace();
        promise11Minutes();
        promise12MinutesGoBy();
        promise12HowManyAreLit();
        promise12Minutes();
        Document.allPromisesTested(1, 12);
        Expect.end();
    }

    private static void promise1NoHills() {
        Document.says("Promise 1", "Creates a land without hills.");
        HillBeacons land = new HillBeacons();
        Expect.same("hills", land.hills(), 0);
        Expect.refusesOtherHills("isDark", land, hill -> land.isDark(hill));
        land.addHill(5, 0, 1);
        Expect.same("hills of another land", new HillBeacons().hills(), 0);
    }

    private static void promise2NumberOfTheHill() {
        Document.says("Promise 2", "Returns its number.");
        HillBeacons land = new HillBeacons();
        for (int i = 0; i < 10; i++) {
            Expect.same("number", land.addHill(5, 0, 1), i);
        }
    }

    private static void promise2Wood() {
        Document.says("Promise 2", "Throws IllegalArgumentException if wood is not 0 to 30");
        HillBeacons land = Lands.of(3, 5, 0, 1);
        int[] wrong = {-1, 31, Integer.MIN_VALUE, Integer.MAX_VALUE};
        for (int wood : wrong) {
            Expect.refused("wood " + wood, Expect.BAD_NUMBER, land, () -> land.addHill(wood, 0, 1));
        }
        Expect.same("wood 0", land.addHill(0, 0, 1), 3);
        Expect.same("wood 30", land.addHill(30, 0, 1), 4);
    }

    private static void promise2Damp() {
        Document.says("Promise 2", "damp is not 0 to 9");
        HillBeacons land = Lands.of(3, 5, 0, 1);
        int[] wrong = {-1, 10, Integer.MIN_VALUE, Integer.MAX_VALUE};
        for (int damp : wrong) {
            Expect.refused("damp " + damp, Expect.BAD_NUMBER, land, () -> land.addHill(5, damp, 1));
        }
        Expect.same("damp 0", land.addHill(5, 0, 1), 3);
        Expect.same("damp 9", land.addHill(5, 9, 1), 4);
    }

    private static void promise2Watch() {
        Document.says("Promise 2", "or watch is not 1 to 5");
        HillBeacons land = Lands.of(3, 5, 0, 1);
        int[] wrong = {0, 6, -1, Integer.MIN_VALUE, Integer.MAX_VALUE};
        for (int watch : wrong) {
            Expect.refused("watch " + watch, Expect.BAD_NUMBER, land,
                    () -> land.addHill(5, 0, watch));
        }
        Expect.same("watch 1", land.addHill(5, 0, 1), 3);
        Expect.same("watch 5", land.addHill(5, 0, 5), 4);
    }

    private static void promise2AnEleventhHill() {
        Document.says("Promise 2", "Throws IllegalStateException if there are 10");
        HillBeacons land = Lands.of(9, 5, 0, 1);
        Expect.same("the tenth hill", land.addHill(0, 0, 1), 9);
        Expect.refused("the eleventh", Expect.BAD_STATE, land, () -> land.addHill(5, 0, 1));
        Expect.refused("the least one", Expect.BAD_STATE, land, () -> land.addHill(0, 0, 1));
        Expect.refused("the greatest one", Expect.BAD_STATE, land, () -> land.addHill(30, 9, 5));
        Expect.same("hills", land.hills(), 10);
    }

    private static void promise3SetsBothWays() {
        Document.says("Promise 3", "Sets the sight between two hills.");
        HillBeacons land = Lands.of(10, 5, 0, 1);
        land.setSight(0, 9, 20);
        land.setSight(9, 8, 1);
        Expect.same("from 0 to 9", land.milesBetween(0, 9), 20);
        Expect.same("from 9 to 0", land.milesBetween(9, 0), 20);
        Expect.same("from 8 to 9", land.milesBetween(8, 9), 1);
        Expect.same("from 0 to 8", land.milesBetween(0, 8), 0);
        Expect.same("9 sees 0", land.canSee(9, 0), true);
    }

    private static void promise3ZeroIsNone() {
        Document.says("Promise 3", "over how many miles it is, 0 if there is none");
        HillBeacons land = Lands.of(2, 5, 0, 1);
        land.setSight(0, 1, 1);
        Expect.same("over 1 mile", land.canSee(0, 1), true);
        land.setSight(0, 1, 0);
        Expect.same("over 0 miles", land.canSee(0, 1), false);
        Expect.same("steps then", land.fewestSteps(0, 1), -1);
    }

    private static void promise3NoneBefore() {
        Document.says("Promise 3", "Returns over how many it was, 0 if there was none.");
        HillBeacons land = Lands.of(2, 5, 0, 1);
        Expect.same("the first", land.setSight(0, 1, 20), 0);
        Expect.same("the second, the other way", land.setSight(1, 0, 1), 20);
        Expect.same("the third", land.setSight(0, 1, 0), 1);
        Expect.same("the fourth, of none", land.setSight(0, 1, 0), 0);
        Expect.same("the fifth", land.setSight(1, 0, 7), 0);
    }

    private static void promise3NoSuchHill() {
        Document.says("Promise 3", "Throws IndexOutOfBoundsException if there is no such hill");
        for (int hills = 0; hills <= 10; hills += 5) {
            HillBeacons land = Lands.of(hills, 5, 0, 1);
            Expect.refusesOtherHills("the first", land, hill -> land.setSight(hill, 0, 5));
            Expect.refusesOtherHills("the second", land, hill -> land.setSight(0, hill, 5));
        }
    }

    private static void promise3BothTheSame() {
        Document.says("Promise 3", "Throws IllegalArgumentException if both are the same");
        HillBeacons land = Lands.of(10, 5, 0, 1);
        for (int hill = 0; hill < 10; hill++) {
            int same = hill;
            Expect.refused("5 miles", Expect.BAD_NUMBER, land, () -> land.setSight(same, same, 5));
            Expect.refused("0 miles", Expect.BAD_NUMBER, land, () -> land.setSight(same, same, 0));
        }
    }

    private static void promise3Miles() {
        Document.says("Promise 3", "or miles is not 0 to 20");
        HillBeacons land = Lands.of(2, 5, 0, 1);
        land.setSight(0, 1, 7);
        int[] wrong = {-1, 21, Integer.MIN_VALUE, Integer.MAX_VALUE};
        for (int miles : wrong) {
            Expect.refused(miles + " miles", Expect.BAD_NUMBER, land,
                    () -> land.setSight(0, 1, miles));
        }
        Expect.same("20 miles", land.setSight(0, 1, 20), 7);
        Expect.same("0 miles", land.setSight(0, 1, 0), 20);
    }

    private static void promise4TurnEast() {
        Document.says("Promise 4", "Lets a hill look east, or not any more, if it does.");
        Document.says("Promise 4", "Returns whether it does then.");
        HillBeacons land = Lands.of(10, 5, 0, 1);
        Expect.same("once", land.turnEast(9), true);
        Expect.same("hill 9 then", land.looksEast(9), true);
        Expect.same("hill 8 then", land.looksEast(8), false);
        Expect.same("twice", land.turnEast(9), false);
        Expect.same("thrice", land.turnEast(9), true);
        Expect.same("hill 0", land.turnEast(0), true);
    }

    private static void promise4NoSuchHill() {
        Document.says("Promise 4", "Throws IndexOutOfBoundsException if there is no such hill");
        for (int hills = 0; hills <= 10; hills += 5) {
            HillBeacons land = Lands.of(hills, 5, 0, 1);
            Expect.refusesOtherHills("turnEast", land, hill -> land.turnEast(hill));
        }
    }

    private static void promise5TurnPost() {
        Document.says("Promise 5", "Makes a hill a post, or not any more, if it is one.");
        Document.says("Promise 5", "Returns whether it is one then.");
        HillBeacons land = Lands.of(10, 5, 0, 1);
        Expect.same("once", land.turnPost(9), true);
        Expect.same("hill 9 then", land.isPost(9), true);
        Expect.same("hill 8 then", land.isPost(8), false);
        Expect.same("twice", land.turnPost(9), false);
        Expect.same("thrice", land.turnPost(9), true);
        Expect.same("hill 0", land.turnPost(0), true);
    }

    private static void promise5NoSuchHill() {
        Document.says("Promise 5", "Throws IndexOutOfBoundsException if there is no such hill");
        for (int hills = 0; hills <= 10; hills += 5) {
            HillBeacons land = Lands.of(hills, 5, 0, 1);
            Expect.refusesOtherHills("turnPost", land, hill -> land.turnPost(hill));
        }
    }

    private static void promise6UpTo30() {
        Document.says("Promise 6", "what would be more than 30 is left behind");
        Document.says("Promise 6", "Returns how many it has then.");
        int[][] cases = {{0, 1, 1}, {0, 30, 30}, {1, 30, 30}, {1, 29, 30}, {1, 28, 29},
            {29, 1, 30}, {29, 2, 30}, {30, 1, 30}, {30, 30, 30}};
        for (int[] one : cases) {
            HillBeacons land = Lands.of(1, one[0], 0, 1);
            String what = one[1] + " to " + one[0];
            Expect.same(what, land.bringWood(0, one[1]), one[2]);
            Expect.same(what + ", its wood then", land.woodOf(0), one[2]);
        }
        HillBeacons burning = Lands.roundAFire(1, 0, 0, 1);
        Expect.same("1 to a fire with 29", burning.bringWood(0, 1), 30);
    }

    private static void promise6NoSuchHill() {
        Document.says("Promise 6", "Throws IndexOutOfBoundsException if there is no such hill");
        for (int hills = 0; hills <= 10; hills += 5) {
            HillBeacons land = Lands.of(hills, 5, 0, 1);
            Expect.refusesOtherHills("bringWood", land, hill -> land.bringWood(hill, 1));
        }
    }

    private static void promise6Bundles() {
        Document.says("Promise 6", "Throws IllegalArgumentException if bundles is not 1 to 30");
        HillBeacons land = Lands.of(10, 0, 0, 1);
        int[] wrong = {0, 31, -1, Integer.MIN_VALUE, Integer.MAX_VALUE};
        for (int bundles : wrong) {
            Expect.refused(bundles + " bundles", Expect.BAD_NUMBER, land,
                    () -> land.bringWood(9, bundles));
        }
        Expect.same("1 bundle", land.bringWood(9, 1), 1);
        Expect.same("30 bundles", land.bringWood(0, 30), 30);
        Expect.refused("31 to a full hill", Expect.BAD_NUMBER, land, () -> land.bringWood(0, 31));
    }

    private static void promise7KindlingTakesAsLong() {
        Document.says("Promise 7", "a fire that is kindling takes as long as it took before");
        Document.says("Promise 7", "Returns the one before.");
        HillBeacons land = Lands.of(2, 5, 0, 1);
        land.light(0);
        Expect.same("from 0 to 9", land.setDamp(0, 9), 0);
        Expect.same("damp then", land.dampOf(0), 9);
        Expect.same("minutes as before", land.minutesToBurn(0), 1);
        land.passMinutes(1);
        Expect.same("it burns", land.isBurning(0), true);
        Expect.same("from 0 to 9, of 1", land.setDamp(1, 9), 0);
        land.light(1);
        Expect.same("from 9 to 0", land.setDamp(1, 0), 9);
        Expect.same("from 0 to 0", land.setDamp(1, 0), 0);
        Expect.same("minutes as before, of 1", land.minutesToBurn(1), 10);
        land.passMinutes(9);
        Expect.same("1 is still kindling", Lands.fires(land), "dk");
        land.passMinutes(1);
        Expect.same("1 burns", Lands.fires(land), "db");
        land.douse(1);
        Expect.same("the next fire takes the damp", land.light(1), 1);
    }

    private static void promise7NoSuchHill() {
        Document.says("Promise 7", "Throws IndexOutOfBoundsException if there is no such hill");
        for (int hills = 0; hills <= 10; hills += 5) {
            HillBeacons land = Lands.of(hills, 5, 0, 1);
            Expect.refusesOtherHills("setDamp", land, hill -> land.setDamp(hill, 1));
        }
    }

    private static void promise7Damp() {
        Document.says("Promise 7", "Throws IllegalArgumentException if damp is not 0 to 9");
        HillBeacons land = Lands.of(10, 5, 4, 1);
        int[] wrong = {-1, 10, Integer.MIN_VALUE, Integer.MAX_VALUE};
        for (int damp : wrong) {
            Expect.refused("damp " + damp, Expect.BAD_NUMBER, land, () -> land.setDamp(9, damp));
        }
        Expect.same("damp 0", land.setDamp(9, 0), 4);
        Expect.same("damp 9", land.setDamp(9, 9), 0);
        Expect.same("damp then", land.dampOf(9), 9);
    }

    private static void promise8Haze() {
        Document.says("Promise 8", "Throws IllegalArgumentException if haze is not 0 to 9");
        HillBeacons land = new HillBeacons();
        land.setHaze(4);
        int[] wrong = {-1, 10, Integer.MIN_VALUE, Integer.MAX_VALUE};
        for (int haze : wrong) {
            Expect.refused("haze " + haze, Expect.BAD_NUMBER, land, () -> land.setHaze(haze));
        }
        Document.says("Promise 8", "Returns the one before.");
        Expect.same("haze 9", land.setHaze(9), 4);
        Expect.same("haze 0", land.setHaze(0), 9);
        Expect.same("haze 0 again", land.setHaze(0), 0);
    }

    private static void promise9SourceAndAnswers() {
        Document.says("Promise 9", "its source is itself,"
                + " and it has been answered 0 times from now on");
        HillBeacons land = Lands.of(10, 30, 0, 1);
        for (int i = 0; i < 10; i++) {
            land.turnPost(i);
            land.light(i);
            Expect.same("source of " + i, land.sourceOf(i), i);
            Expect.same("answers to " + i, land.answersTo(i), 0);
        }
        land.passMinutes(1);
        Expect.same("answers to 9, which is a post", land.answersTo(9), 1);
        land.douse(9);
        Expect.same("answers to 9, doused", land.answersTo(9), 1);
        land.light(9);
        Expect.same("answers to 9, lit anew", land.answersTo(9), 0);
        Expect.same("answers to 8 then", land.answersTo(8), 1);
    }

    private static void promise9Minutes() {
        Document.says("Promise 9", "Returns in how many minutes it burns.");
        for (int damp = 0; damp <= 9; damp++) {
            HillBeacons land = Lands.of(1, 1, damp, 1);
            int minutes = land.light(0);
            Expect.same("damp " + damp, minutes, damp + 1);
            if (damp > 0) {
                land.passMinutes(damp);
            }
            Expect.same("a minute before", Lands.fires(land), "k");
            land.passMinutes(1);
            Expect.same("then", Lands.fires(land), "b");
        }
    }

    private static void promise9NoSuchHill() {
        Document.says("Promise 9", "Throws IndexOutOfBoundsException if there is no such hill");
        for (int hills = 0; hills <= 10; hills += 5) {
            HillBeacons land = Lands.of(hills, 5, 0, 1);
            Expect.refusesOtherHills("light", land, hill -> land.light(hill));
        }
    }

    private static void promise9NotDarkOrNoWood() {
        Document.says("Promise 9", "Throws IllegalStateException if it is not dark, or has no wood");
        HillBeacons land = Lands.of(10, 0, 0, 1);
        Expect.refused("dark, no wood", Expect.BAD_STATE, land, () -> land.light(9));
        land.bringWood(9, 1);
        Expect.same("dark, 1 bundle", land.light(9), 1);
        Expect.refused("kindling, no wood", Expect.BAD_STATE, land, () -> land.light(9));
        land.bringWood(9, 30);
        Expect.refused("kindling, 30 bundles", Expect.BAD_STATE, land, () -> land.light(9));
        land.passMinutes(1);
        Expect.refused("burning, 30 bundles", Expect.BAD_STATE, land, () -> land.light(9));
        land.passMinutes(30);
        Expect.refused("burning, no wood", Expect.BAD_STATE, land, () -> land.light(9));
        land.passMinutes(1);
        Expect.refused("burnt down", Expect.BAD_STATE, land, () -> land.light(9));
        land.bringWood(9, 1);
        Expect.same("dark again, 1 bundle", land.light(9), 1);
        Expect.same("times lit", land.timesLit(), 2);
    }

    private static void promise10DarkThen() {
        Document.says("Promise 10", "Puts a fire out; the hill is dark then.");
        Document.says("Promise 10", "Returns how much wood it has left.");
        HillBeacons land = Lands.of(3, 1, 9, 1);
        land.bringWood(2, 29);
        land.light(0);
        land.light(2);
        Expect.same("kindling, no wood left", land.douse(0), 0);
        land.passMinutes(10);
        Expect.same("fires", Lands.fires(land), "ddb");
        Expect.same("burning, 29 left", land.douse(2), 29);
        Expect.same("fires then", Lands.fires(land), "ddd");
        Expect.same("minutes to burn", land.minutesToBurn(0), 0);
        Expect.same("not lit any more", land.minutesUntilBurning(0), -1);
        Expect.same("its wood is not used", land.passMinutes(100), 0);
        Expect.same("wood of 2", land.woodOf(2), 29);
        HillBeacons mistake = Lands.of(1, 2, 0, 1);
        mistake.turnEast(0);
        mistake.glow(1);
        mistake.passMinutes(1);
        Expect.same("a mistake put out", mistake.douse(0), 1);
        Expect.same("no mistake any more", mistake.isMistaken(0), false);
        Expect.same("but there was one", mistake.timesMistaken(), 1);
    }

    private static void promise10NoSuchHill() {
        Document.says("Promise 10", "Throws IndexOutOfBoundsException if there is no such hill");
        for (int hills = 0; hills <= 10; hills += 5) {
            HillBeacons land = Lands.of(hills, 5, 0, 1);
            Expect.refusesOtherHills("douse", land, hill -> land.douse(hill));
        }
    }

    private static void promise10Dark() {
        Document.says("Promise 10", "Throws IllegalStateException if it is dark");
        HillBeacons land = Lands.of(10, 2, 0, 1);
        Expect.refused("never lit", Expect.BAD_STATE, land, () -> land.douse(9));
        land.light(9);
        Expect.same("kindling", land.douse(9), 1);
        Expect.refused("doused", Expect.BAD_STATE, land, () -> land.douse(9));
        land.light(9);
        land.passMinutes(2);
        Expect.refused("burnt down", Expect.BAD_STATE, land, () -> land.douse(9));
    }

    private static void promise11InThePlace() {
        Document.says("Promise 11", "Lets the sky glow in the east,"
                + " in the place of a glow that there is.");
        Document.says("Promise 11", "Returns how long it would have been.");
        HillBeacons land = new HillBeacons();
        Expect.same("in the place of none", land.glow(30), 0);
        Expect.same("a shorter one", land.glow(1), 30);
        Expect.same("not added", land.glowLeft(), 1);
        Expect.same("a longer one", land.glow(30), 1);
        land.passMinutes(29);
        Expect.same("in its last minute", land.glow(0), 1);
        Expect.same("none then", land.glowLeft(), 0);
        Expect.same("in the place of none again", land.glow(0), 0);
        land.glow(1);
        land.passMinutes(2);
        Expect.same("in the place of one gone by", land.glow(5), 0);
    }

    private static void promise11Minutes() {
        Document.says("Promise 11", "Throws IllegalArgumentException if minutes is not 0 to 30");
        HillBeacons land = Lands.of(10, 5, 0, 1);
        land.glow(4);
        int[] wrong = {-1, 31, Integer.MIN_VALUE, Integer.MAX_VALUE};
        for (int minutes : wrong) {
            Expect.refused(minutes + " minutes", Expect.BAD_NUMBER, land, () -> land.glow(minutes));
        }
        Expect.same("30 minutes", land.glow(30), 4);
        Expect.same("0 minutes", land.glow(0), 30);
    }

    private static void promise12MinutesGoBy() {
        Document.says("Promise 12", "Lets minutes go by.");
        HillBeacons at1 = Lands.lineOf(10, 30, 0, 1);
        HillBeacons at100 = Lands.lineOf(10, 30, 0, 1);
        at1.light(0);
        at100.light(0);
        for (int i = 0; i < 100; i++) {
            at1.passMinutes(1);
        }
        at100.passMinutes(100);
        Expect.same("100 times 1 minute, and 100 minutes", at1.digest(), at100.digest());
        Expect.same("minute", at100.minute(), 100);
    }

    private static void promise12HowManyAreLit() {
        Document.says("Promise 12", "Returns how many hills are lit in them.");
        Expect.same("of no hill", new HillBeacons().passMinutes(100), 0);
        HillBeacons land = Lands.of(10, 30, 0, 1);
        Expect.same("of ten dark ones", land.passMinutes(100), 0);
        for (int i = 0; i < 10; i++) {
            land.turnEast(i);
        }
        land.glow(1);
        Expect.same("of ten, all in a minute", land.passMinutes(1), 10);
        Expect.same("in the next", land.passMinutes(1), 0);
        HillBeacons line = Lands.lineOf(10, 30, 0, 1);
        line.light(0);
        Expect.same("of ten, in 100 minutes, but for the one by hand", line.passMinutes(100), 9);
    }

    private static void promise12Minutes() {
        Document.says("Promise 12", "Throws IllegalArgumentException if minutes is not 1 to 100");
        HillBeacons land = Lands.inFlames(10);
        int[] wrong = {0, 101, -1, Integer.MIN_VALUE, Integer.MAX_VALUE};
        for (int minutes : wrong) {
            Expect.refused(minutes + " minutes", Expect.BAD_NUMBER, land,
                    () -> land.passMinutes(minutes));
        }
        land.passMinutes(1);
        Expect.same("1 minute", land.minute(), 5);
        land.passMinutes(100);
        Expect.same("100 minutes", land.minute(), 105);
    }
}
