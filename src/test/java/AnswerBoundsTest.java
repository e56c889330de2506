import java.math.BigInteger;

/** The bounds that promises 13 to 40 name: no hill and all ten, the edges, and each refused call. */
public final class AnswerBoundsTest {
    private static final String NO_HILL =
            "Throws IndexOutOfBoundsException if there is no such hill";

    private interface Question {
        void ask(HillBeacons land, int hill);
    }

    private interface PairQuestion {
        void ask(HillBeacons land, int a, int b);
    }

    public static void main(String[] args) {
        promises13To17OfTheFirstAndTheLastHill();
        promises13To17NoSuchHill();
        promise18NoneOrTheSame();
        promise19FalseIfTheSame();
        promise20ZeroIfTheSame();
        promise20StepsFrom1To9();
        promise20IfItCannot();
        promises18To20NoSuchHill();
        promises21And22FirstAndLast();
        promise23ZeroIfNotKindling();
        promise24LookingFor0To4();
        promise25NoneIsMinus1();
        promise25Dark();
        promise26NotDarkAndNoSource();
        promise27ZeroIfNeverByHand();
        promise27SinceTheLatestTime();
        promises21To27NoSuchHill();
        promise28NoneToTen();
        promise29Minutes();
        promise30Haze();
        promise31GlowLeft();
        promise32NoneToTen();
        promise33ByHandAsWell();
        promise34WithoutASource();
        promise35ZeroIfItIsNow();
        promise35AtMost150();
        promise35NotByThen();
        promise35IfNothingElseIsDone();
        promises35To38NothingIsChanged();
        promise35NoSuchHill();
        promise36NoneToTen();
        promise36Minutes();
        promise37ThisOneAsWell();
        promise37BehindTheFirstMinute();
        promise37BehindThe100thMinute();
        promise37HaveItAsTheSource();
        promise37NoSuchHill();
        promise37NotDarkOrNoWood();
        promise38TheMost();
        promise38SmallestNumber();
        promise38NoHillCanBeLit();
        promise39WithoutAny();
        promise39OneToTen();
        promise40NoHill();
        promise40WrapsAround();
        promise40ForEachNumber();
        promise40NoneAndDark();
        Document.allPromisesTested(13, 40);
        Expect.end();
    }

    /** No hill but those of the land may be asked about, be there none, five or all ten. */
    private static void refusesOtherHills(int promise, String what, Question question) {
        Document.says("Promise " + promise, NO_HILL);
        for (int hills = 0; hills <= 10; hills += 5) {
            HillBeacons land = Lands.of(hills, 5, 0, 1);
            Expect.refusesOtherHills(what, land, hill -> question.ask(land, hill));
        }
        HillBeacons fires = Lands.inFlames(9);
        Expect.refusesOtherHills(what, fires, hill -> question.ask(fires, hill));
    }

    private static void refusesOtherPairs(int promise, String what, PairQuestion question) {
        refusesOtherHills(promise, what + ", first", (land, hill) -> question.ask(land, hill, 0));
        refusesOtherHills(promise, what + ", second", (land, hill) -> question.ask(land, 0, hill));
        refusesOtherHills(promise, what + ", both", (land, hill) -> question.ask(land, hill, hill));
    }

    private static void promises13To17OfTheFirstAndTheLastHill() {
        HillBeacons land = new HillBeacons();
        for (int i = 0; i < 10; i++) {
            land.addHill(i == 0 ? 0 : 30, i == 0 ? 0 : 9, i == 0 ? 1 : 5);
        }
        land.turnEast(9);
        land.turnPost(0);
        Document.says("Promise 13", "Returns its wood.");
        Expect.same("the least", land.woodOf(0), 0);
        Expect.same("the greatest", land.woodOf(9), 30);
        Document.says("Promise 14", "Returns its damp.");
        Expect.same("the least", land.dampOf(0), 0);
        Expect.same("the greatest", land.dampOf(9), 9);
        Document.says("Promise 15", "Returns its watch.");
        Expect.same("the least", land.watchOf(0), 1);
        Expect.same("the greatest", land.watchOf(9), 5);
        Document.says("Promise 16", "Returns whether it looks east.");
        Expect.same("the first", land.looksEast(0), false);
        Expect.same("the last", land.looksEast(9), true);
        Document.says("Promise 17", "Returns whether it is a post.");
        Expect.same("the first", land.isPost(0), true);
        Expect.same("the last", land.isPost(9), false);
    }

    private static void promises13To17NoSuchHill() {
        refusesOtherHills(13, "woodOf", (land, hill) -> land.woodOf(hill));
        refusesOtherHills(14, "dampOf", (land, hill) -> land.dampOf(hill));
        refusesOtherHills(15, "watchOf", (land, hill) -> land.watchOf(hill));
        refusesOtherHills(16, "looksEast", (land, hill) -> land.looksEast(hill));
        refusesOtherHills(17, "isPost", (land, hill) -> land.isPost(hill));
    }

    private static void promise18NoneOrTheSame() {
        Document.says("Promise 18", "0 if there is none, or they are the same");
        HillBeacons land = Lands.of(10, 5, 0, 1);
        Expect.same("none", land.milesBetween(0, 9), 0);
        land.setSight(0, 9, 20);
        land.setSight(8, 9, 1);
        land.setHaze(9);
        Expect.same("20, unseen in the haze", land.milesBetween(9, 0), 20);
        Expect.same("1", land.milesBetween(8, 9), 1);
        for (int i = 0; i < 10; i++) {
            Expect.same("the same, hill " + i, land.milesBetween(i, i), 0);
        }
    }

    private static void promise19FalseIfTheSame() {
        Document.says("Promise 19", "false if they are the same");
        HillBeacons land = Lands.of(10, 5, 0, 1);
        for (int a = 0; a < 10; a++) {
            for (int b = 0; b < a; b++) {
                land.setSight(a, b, 1);
            }
        }
        for (int a = 0; a < 10; a++) {
            for (int b = 0; b < 10; b++) {
                Expect.same("from " + a + " to " + b, land.canSee(a, b), a != b);
            }
        }
        land.setSight(0, 9, 3);
        land.setHaze(9);
        Expect.same("now, with haze", land.canSee(0, 9), false);
        Expect.same("the near ones still", land.canSee(0, 8), true);
    }

    private static void promise20ZeroIfTheSame() {
        Document.says("Promise 20", "0 if they are the same");
        HillBeacons land = Lands.lineOf(10, 5, 0, 1);
        for (int i = 0; i < 10; i++) {
            Expect.same("hill " + i, land.fewestSteps(i, i), 0);
        }
        Expect.same("the only hill", Lands.of(1, 0, 0, 1).fewestSteps(0, 0), 0);
    }

    private static void promise20StepsFrom1To9() {
        Document.says("Promise 20", "the second one can be reached from the first one at the least");
        HillBeacons land = Lands.lineOf(10, 5, 0, 1);
        for (int i = 1; i < 10; i++) {
            Expect.same("forth to " + i, land.fewestSteps(0, i), i);
            Expect.same("back from " + i, land.fewestSteps(i, 0), i);
        }
        land.setSight(0, 9, 20);
        Expect.same("the short way to 9", land.fewestSteps(0, 9), 1);
        Expect.same("the short way to 5", land.fewestSteps(0, 5), 5);
        Expect.same("the short way to 6", land.fewestSteps(0, 6), 4);
        land.setHaze(1);
        Expect.same("without it in the haze", land.fewestSteps(0, 9), 9);
    }

    private static void promise20IfItCannot() {
        Document.says("Promise 20", "-1 if it cannot");
        HillBeacons land = Lands.lineOf(10, 5, 0, 1);
        land.setSight(8, 9, 0);
        Expect.same("to 9", land.fewestSteps(0, 9), -1);
        Expect.same("from 9", land.fewestSteps(9, 8), -1);
        Expect.same("to 8", land.fewestSteps(0, 8), 8);
        land.setSight(8, 9, 6);
        land.setHaze(7);
        Expect.same("over 6 miles, as far as one sees", land.fewestSteps(0, 9), 9);
        land.setHaze(8);
        Expect.same("over 6 miles, farther than one sees", land.fewestSteps(8, 9), -1);
    }

    private static void promises18To20NoSuchHill() {
        refusesOtherPairs(18, "milesBetween", (land, a, b) -> land.milesBetween(a, b));
        refusesOtherPairs(19, "canSee", (land, a, b) -> land.canSee(a, b));
        refusesOtherPairs(20, "fewestSteps", (land, a, b) -> land.fewestSteps(a, b));
    }

    private static void promises21And22FirstAndLast() {
        HillBeacons land = Lands.of(10, 1, 1, 1);
        land.light(0);
        land.setDamp(9, 0);
        land.light(9);
        land.passMinutes(1);
        Document.says("Promise 21", "Returns whether it is dark.");
        Expect.same("kindling", land.isDark(0), false);
        Expect.same("dark", land.isDark(1), true);
        Expect.same("burning", land.isDark(9), false);
        Document.says("Promise 22", "Returns whether it is burning.");
        Expect.same("kindling", land.isBurning(0), false);
        Expect.same("dark", land.isBurning(1), false);
        Expect.same("burning", land.isBurning(9), true);
        land.passMinutes(1);
        Expect.same("beginning to burn, and gone out", Lands.fires(land), "bddddddddd");
    }

    private static void promise23ZeroIfNotKindling() {
        Document.says("Promise 23", "Returns how many minutes its fire takes until it burns;"
                + " 0 if it is not kindling.");
        HillBeacons land = Lands.of(1, 1, 9, 1);
        Expect.same("dark", land.minutesToBurn(0), 0);
        land.light(0);
        for (int left = 10; left >= 1; left--) {
            Expect.same("kindling", land.minutesToBurn(0), left);
            land.passMinutes(1);
        }
        Expect.same("it burns", land.isBurning(0), true);
        Expect.same("burning", land.minutesToBurn(0), 0);
        land.passMinutes(1);
        Expect.same("gone out", land.minutesToBurn(0), 0);
        land.bringWood(0, 5);
        land.light(0);
        land.douse(0);
        Expect.same("doused", land.minutesToBurn(0), 0);
    }

    private static void promise24LookingFor0To4() {
        Document.says("Promise 24", "Returns for how many minutes its keeper"
                + " has been looking at something.");
        HillBeacons land = Lands.roundAFire(10, 5, 0, 5);
        for (int i = 0; i < 5; i++) {
            String due = "0" + String.valueOf(i).repeat(9);
            Expect.same("after " + i + " minutes", Lands.looking(land), due);
            land.passMinutes(1);
        }
        Expect.same("as they are lit", Lands.looking(land), "0000000000");
        Expect.same("fires", Lands.fires(land), "bkkkkkkkkk");
    }

    private static void promise25NoneIsMinus1() {
        Document.says("Promise 25", "Returns the source of its fire; -1 if it has none.");
        HillBeacons land = Lands.inFlames(10);
        int[] due = {0, 0, -2, -1, -2, 0, 6, -2, 8, -2};
        for (int i = 0; i < 10; i++) {
            if (due[i] != -2) {
                Expect.same("hill " + i, land.sourceOf(i), due[i]);
            }
        }
    }

    private static void promise25Dark() {
        Document.says("Promise 25", "Throws IllegalStateException if it is dark");
        HillBeacons land = Lands.of(10, 1, 0, 1);
        Expect.refused("never lit", Expect.BAD_STATE, land, () -> land.sourceOf(9));
        land.light(9);
        Expect.same("kindling", land.sourceOf(9), 9);
        land.passMinutes(1);
        Expect.same("burning", land.sourceOf(9), 9);
        land.passMinutes(1);
        Expect.refused("gone out", Expect.BAD_STATE, land, () -> land.sourceOf(9));
        land.light(0);
        land.douse(0);
        Expect.refused("doused", Expect.BAD_STATE, land, () -> land.sourceOf(0));
    }

    private static void promise26NotDarkAndNoSource() {
        Document.says("Promise 26", "Returns whether it is not dark, and its fire has no source.");
        HillBeacons land = Lands.of(3, 1, 1, 1);
        land.turnEast(0);
        land.glow(1);
        land.light(2);
        Expect.same("dark, by no hand", land.isMistaken(0), false);
        land.passMinutes(1);
        Expect.same("kindling by mistake", land.isMistaken(0), true);
        Expect.same("dark still", land.isMistaken(1), false);
        Expect.same("kindling by hand", land.isMistaken(2), false);
        land.passMinutes(2);
        Expect.same("burning by mistake", land.isMistaken(0), true);
        land.passMinutes(1);
        Expect.same("gone out", land.isMistaken(0), false);
        HillBeacons all = Lands.of(10, 5, 0, 1);
        for (int i = 0; i < 10; i++) {
            all.turnEast(i);
        }
        all.glow(1);
        all.passMinutes(1);
        for (int i = 0; i < 10; i++) {
            Expect.same("each of ten", all.isMistaken(i), true);
        }
    }

    private static void promise27ZeroIfNeverByHand() {
        Document.says("Promise 27", "0 if it never was");
        HillBeacons land = Lands.lineOf(10, 30, 0, 1);
        for (int i = 0; i < 10; i++) {
            land.turnPost(i);
            Expect.same("at first", land.answersTo(i), 0);
        }
        land.light(0);
        land.passMinutes(100);
        Expect.same("the source of all", land.answersTo(0), 10);
        for (int i = 1; i < 10; i++) {
            Expect.same("lit, but not by hand", land.answersTo(i), 0);
        }
    }

    private static void promise27SinceTheLatestTime() {
        Document.says("Promise 27", "Returns how many times it has been answered"
                + " since it was lit by hand the latest time");
        HillBeacons land = Lands.roundAFire(3, 30, 0, 1);
        land.turnPost(1);
        land.turnPost(2);
        land.passMinutes(2);
        Expect.same("by two posts", land.answersTo(0), 2);
        land.douse(1);
        land.passMinutes(2);
        Expect.same("by one of them again", land.answersTo(0), 3);
        land.douse(0);
        land.setSight(0, 1, 0);
        land.setSight(0, 2, 0);
        Expect.same("doused", land.answersTo(0), 3);
        land.light(0);
        Expect.same("lit by hand anew", land.answersTo(0), 0);
        land.passMinutes(1);
        Expect.same("by none since", land.answersTo(0), 0);
    }

    private static void promises21To27NoSuchHill() {
        refusesOtherHills(21, "isDark", (land, hill) -> land.isDark(hill));
        refusesOtherHills(22, "isBurning", (land, hill) -> land.isBurning(hill));
        refusesOtherHills(23, "minutesToBurn", (land, hill) -> land.minutesToBurn(hill));
        refusesOtherHills(24, "lookingFor", (land, hill) -> land.lookingFor(hill));
        refusesOtherHills(25, "sourceOf", (land, hill) -> land.sourceOf(hill));
        refusesOtherHills(26, "isMistaken", (land, hill) -> land.isMistaken(hill));
        refusesOtherHills(27, "answersTo", (land, hill) -> land.answersTo(hill));
    }

    private static void promise28NoneToTen() {
        Document.says("Promise 28", "Returns how many hills there are.");
        HillBeacons land = new HillBeacons();
        Expect.same("none", land.hills(), 0);
        for (int i = 1; i <= 10; i++) {
            land.addHill(5, 0, 1);
            Expect.same("then", land.hills(), i);
        }
        Expect.refused("an eleventh", Expect.BAD_STATE, land, () -> land.addHill(5, 0, 1));
        Expect.same("at last", land.hills(), 10);
    }

    private static void promise29Minutes() {
        Document.says("Promise 29", "Returns how many minutes went by.");
        HillBeacons land = new HillBeacons();
        Expect.same("none", land.minute(), 0);
        land.passMinutes(1);
        Expect.same("one", land.minute(), 1);
        land.passMinutes(100);
        Expect.same("101", land.minute(), 101);
        land.burningAfter(100);
        Expect.same("after a forecast", land.minute(), 101);
    }

    private static void promise30Haze() {
        Document.says("Promise 30", "Returns the haze.");
        HillBeacons land = new HillBeacons();
        Expect.same("at first", land.haze(), 0);
        for (int haze = 9; haze >= 0; haze--) {
            land.setHaze(haze);
            Expect.same("then", land.haze(), haze);
        }
    }

    private static void promise31GlowLeft() {
        Document.says("Promise 31", "Returns for how many minutes the sky glows from now on.");
        HillBeacons land = new HillBeacons();
        Expect.same("at first", land.glowLeft(), 0);
        land.glow(30);
        for (int left = 30; left >= 1; left--) {
            Expect.same("then", land.glowLeft(), left);
            land.passMinutes(1);
        }
        Expect.same("gone by", land.glowLeft(), 0);
        land.passMinutes(100);
        Expect.same("long gone by", land.glowLeft(), 0);
    }

    private static void promise32NoneToTen() {
        Document.says("Promise 32", "Returns how many hills are burning.");
        Expect.same("without hills", new HillBeacons().burningHills(), 0);
        HillBeacons land = Lands.of(10, 1, 0, 1);
        Expect.same("none", land.burningHills(), 0);
        for (int i = 0; i < 10; i++) {
            land.light(i);
        }
        Expect.same("none, all kindling", land.burningHills(), 0);
        land.passMinutes(1);
        Expect.same("all ten", land.burningHills(), 10);
        land.douse(9);
        Expect.same("nine", land.burningHills(), 9);
        land.passMinutes(1);
        Expect.same("none, all gone out", land.burningHills(), 0);
    }

    private static void promise33ByHandAsWell() {
        Document.says("Promise 33", "Returns how many times hills were lit in all, by hand as well.");
        HillBeacons land = Lands.lineOf(10, 30, 0, 1);
        Expect.same("at first", land.timesLit(), 0);
        land.light(0);
        Expect.same("by hand", land.timesLit(), 1);
        land.passMinutes(100);
        Expect.same("by signals", land.timesLit(), 10);
        land.bringWood(9, 1);
        land.turnEast(9);
        land.glow(1);
        land.passMinutes(1);
        Expect.same("by mistake, and 9 again", land.timesLit(), 11);
    }

    private static void promise34WithoutASource() {
        Document.says("Promise 34", "Returns how many times hills were lit without a source in all.");
        HillBeacons land = Lands.lineOf(10, 30, 0, 1);
        Expect.same("at first", land.timesMistaken(), 0);
        land.light(9);
        land.passMinutes(1);
        Expect.same("by hand", land.timesMistaken(), 0);
        land.passMinutes(1);
        Expect.same("by a signal", land.timesMistaken(), 0);
        land.setSight(7, 8, 0);
        land.turnEast(0);
        land.glow(1);
        land.passMinutes(1);
        Expect.same("by the glow", land.timesMistaken(), 1);
        land.passMinutes(100);
        Expect.same("by fires without a source", land.timesMistaken(), 8);
        Expect.same("lit in all", land.timesLit(), 10);
    }

    private static void promise35ZeroIfItIsNow() {
        Document.says("Promise 35", "0 if it is now");
        HillBeacons land = Lands.of(10, 1, 0, 1);
        land.light(9);
        Expect.same("kindling with a minute left", land.minutesUntilBurning(9), 1);
        land.passMinutes(1);
        Expect.same("burning its last", land.minutesUntilBurning(9), 0);
        land.passMinutes(1);
        Expect.same("gone out", land.minutesUntilBurning(9), -1);
    }

    private static void promise35AtMost150() {
        // A hill burns 15 minutes behind the one before it at the most, and none burns twice without
        // wood that is brought; so ten hills and a glow of 5 minutes make the 150, and none more.
        Document.says("Promise 35", "at most 150");
        HillBeacons land = Lands.lineOf(10, 30, 9, 5);
        land.turnEast(0);
        land.glow(5);
        Expect.same("the ninth", land.minutesUntilBurning(8), 135);
        Expect.same("150", land.minutesUntilBurning(9), 150);
        land.setDamp(9, 8);
        Expect.same("149", land.minutesUntilBurning(9), 149);
        land.setDamp(9, 9);
        land.passMinutes(1);
        Expect.same("149, a minute later", land.minutesUntilBurning(9), 149);
        land.passMinutes(100);
        land.passMinutes(49);
        Expect.same("0, as it does", land.minutesUntilBurning(9), 0);
        Expect.same("minute", land.minute(), 150);
    }

    private static void promise35NotByThen() {
        Document.says("Promise 35", "-1 if not by then");
        HillBeacons land = Lands.lineOf(10, 30, 9, 5);
        for (int i = 0; i < 10; i++) {
            Expect.same("never lit", land.minutesUntilBurning(i), -1);
        }
        land.turnEast(0);
        land.glow(4);
        Expect.same("a glow that is too short", land.minutesUntilBurning(0), -1);
        land.glow(5);
        land.setSight(8, 9, 0);
        Expect.same("a hill apart", land.minutesUntilBurning(9), -1);
        Expect.same("the one before it", land.minutesUntilBurning(8), 135);
    }

    private static void promise35IfNothingElseIsDone() {
        Document.says("Promise 35", "if nothing else is done");
        for (int haze = 1; haze <= 9; haze++) {
            HillBeacons land = Lands.roundAFire(3, 5, 0, 1);
            land.setHaze(haze);
            land.setSight(0, 1, 20 - 2 * haze);
            land.setSight(0, 2, 20 - 2 * haze + 1);
            Expect.same("as far as one sees", land.minutesUntilBurning(1), 2);
            Expect.same("a mile farther", land.minutesUntilBurning(2), -1);
            Expect.same("burning then", land.burningAfter(2), 2);
            Expect.same("reach of 1", land.reachOf(1), 1);
            land.douse(0);
            Expect.same("reach of 0", land.reachOf(0), 2);
            Expect.same("reach of 2", land.reachOf(2), 1);
            Expect.same("the best hill", land.bestHill(), 0);
        }
        HillBeacons glowing = Lands.of(2, 5, 0, 5);
        glowing.turnEast(1);
        glowing.glow(9);
        glowing.passMinutes(4);
        Expect.same("looking goes on, and the glow", glowing.minutesUntilBurning(1), 2);
        glowing.glow(0);
        Expect.same("without a glow", glowing.minutesUntilBurning(1), -1);
    }

    private static void promises35To38NothingIsChanged() {
        Document.says("Promise 35", "(nothing is changed)");
        for (int hill = 0; hill < 10; hill++) {
            int asked = hill;
            unchangedByAsking("minutesUntilBurning", land -> land.minutesUntilBurning(asked));
        }
        Document.says("Promise 36", "(nothing is changed)");
        unchangedByAsking("burningAfter(1)", land -> land.burningAfter(1));
        unchangedByAsking("burningAfter(100)", land -> land.burningAfter(100));
        Document.says("Promise 37", "(nothing is changed)");
        unchangedByAsking("reachOf(7)", land -> land.reachOf(7));
        unchangedByAsking("reachOf(9)", land -> land.reachOf(9));
        Document.says("Promise 38", "(nothing is changed)");
        unchangedByAsking("bestHill", land -> land.bestHill());
    }

    private interface LandQuestion {
        void ask(HillBeacons land);
    }

    /** The land must stay as one of the same calls that was not asked, now and later. */
    private static void unchangedByAsking(String what, LandQuestion question) {
        HillBeacons asked = Lands.inFlames(10);
        HillBeacons other = Lands.inFlames(10);
        question.ask(asked);
        Expect.sameFromNowOn(what, asked, other);
    }

    private static void promise35NoSuchHill() {
        refusesOtherHills(35, "minutesUntilBurning", (land, hill) -> land.minutesUntilBurning(hill));
    }

    private static void promise36NoneToTen() {
        Document.says("Promise 36", "Returns how many hills are burning behind them,"
                + " if nothing else is done");
        Expect.same("without hills", new HillBeacons().burningAfter(1), 0);
        Expect.same("without hills, later", new HillBeacons().burningAfter(100), 0);
        HillBeacons land = Lands.of(10, 3, 1, 1);
        Expect.same("all dark", land.burningAfter(100), 0);
        for (int i = 0; i < 10; i++) {
            land.light(i);
        }
        int[] due = {0, 10, 10, 10, 0, 0};
        for (int i = 0; i < due.length; i++) {
            Expect.same("behind " + (i + 1), land.burningAfter(i + 1), due[i]);
        }
        HillBeacons late = Lands.lineOf(7, 6, 9, 5);
        late.light(0);
        Expect.same("behind 99", late.burningAfter(99), 0);
        Expect.same("behind 100, as the seventh begins", late.burningAfter(100), 1);
    }

    private static void promise36Minutes() {
        Document.says("Promise 36", "Throws IllegalArgumentException if minutes is not 1 to 100");
        HillBeacons land = Lands.inFlames(10);
        HillBeacons bare = new HillBeacons();
        int[] wrong = {0, 101, -1, Integer.MIN_VALUE, Integer.MAX_VALUE};
        for (int minutes : wrong) {
            Expect.refused(minutes + " minutes", Expect.BAD_NUMBER, land,
                    () -> land.burningAfter(minutes));
            Expect.refused(minutes + " minutes, no hill", Expect.BAD_NUMBER, bare,
                    () -> bare.burningAfter(minutes));
        }
        Expect.same("1 minute", land.burningAfter(1), 3);
        Expect.same("100 minutes", land.burningAfter(100), 0);
    }

    private static void promise37ThisOneAsWell() {
        Document.says("Promise 37", "Returns how many hills, this one as well, would be burning");
        Expect.same("the only hill", Lands.of(1, 1, 9, 5).reachOf(0), 1);
        HillBeacons land = Lands.lineOf(10, 30, 0, 1);
        for (int i = 0; i < 10; i++) {
            Expect.same("all ten, from " + i, land.reachOf(i), 10);
        }
        for (int i = 1; i < 10; i++) {
            land.setSight(i - 1, i, 0);
        }
        for (int i = 0; i < 10; i++) {
            Expect.same("one of ten, " + i, land.reachOf(i), 1);
        }
    }

    /** Hill 1 burns by an earlier signal of hill 0, with so much wood left, and sees nothing. */
    private static HillBeacons earlierSignal(int woodLeft) {
        HillBeacons land = Lands.roundAFire(2, woodLeft + 1, 0, 1);
        land.passMinutes(2);
        land.douse(0);
        land.setSight(0, 1, 0);
        return land;
    }

    private static void promise37BehindTheFirstMinute() {
        Document.says("Promise 37", "behind some of the next 100 minutes");
        Expect.same("one that burns only now", earlierSignal(0).reachOf(0), 1);
        Expect.same("one that burns behind 1 minute", earlierSignal(1).reachOf(0), 2);
    }

    private static void promise37BehindThe100thMinute() {
        // The slowest hills burn behind 10, 25, 40, 55, 70, 85 and 100 minutes.
        Document.says("Promise 37", "behind some of the next 100 minutes");
        HillBeacons land = Lands.lineOf(7, 30, 9, 5);
        Expect.same("the seventh behind 100", land.reachOf(0), 7);
        land.addHill(30, 0, 1);
        land.setSight(6, 7, 5);
        Expect.same("the eighth behind 102", land.reachOf(0), 7);
        land.setDamp(6, 8);
        Expect.same("the eighth behind 101", land.reachOf(0), 7);
        land.setDamp(6, 7);
        Expect.same("the eighth behind 100", land.reachOf(0), 8);
    }

    private static void promise37HaveItAsTheSource() {
        Document.says("Promise 37", "those that burn and have it as the source");
        HillBeacons land = Lands.lineOf(3, 30, 0, 1);
        land.light(0);
        Expect.same("1 burns by the signal of 0", land.reachOf(2), 1);
        land.setSight(1, 2, 4);
        Expect.same("1 is nearer to 2", land.reachOf(2), 2);
        HillBeacons slow = Lands.lineOf(2, 1, 0, 2);
        Expect.same("no fire that is only seen", slow.reachOf(0), 1);
        HillBeacons glowing = Lands.lineOf(2, 9, 0, 1);
        glowing.turnEast(1);
        glowing.glow(1);
        Expect.same("no fire by mistake", glowing.reachOf(0), 1);
    }

    private static void promise37NoSuchHill() {
        refusesOtherHills(37, "reachOf", (land, hill) -> land.reachOf(hill));
    }

    private static void promise37NotDarkOrNoWood() {
        Document.says("Promise 37", "Throws IllegalStateException"
                + " if it is not dark, or has no wood");
        HillBeacons land = Lands.of(10, 0, 0, 1);
        Expect.refused("dark, no wood", Expect.BAD_STATE, land, () -> land.reachOf(9));
        land.bringWood(9, 1);
        Expect.same("dark, 1 bundle", land.reachOf(9), 1);
        land.light(9);
        Expect.refused("kindling, no wood", Expect.BAD_STATE, land, () -> land.reachOf(9));
        land.bringWood(9, 1);
        Expect.refused("kindling, 1 bundle", Expect.BAD_STATE, land, () -> land.reachOf(9));
        land.passMinutes(1);
        Expect.refused("burning, 1 bundle", Expect.BAD_STATE, land, () -> land.reachOf(9));
        land.passMinutes(1);
        Expect.refused("burning, no wood", Expect.BAD_STATE, land, () -> land.reachOf(9));
        land.passMinutes(1);
        Expect.refused("gone out, no wood", Expect.BAD_STATE, land, () -> land.reachOf(9));
    }

    private static void promise38TheMost() {
        Document.says("Promise 38", "Returns the hill for which reachOf() tells the most");
        HillBeacons land = Lands.of(10, 9, 0, 1);
        land.setSight(8, 9, 5);
        land.setDamp(8, 9);
        Expect.same("8 reaches two", land.reachOf(8), 2);
        Expect.same("the most, of ones and twos", land.bestHill(), 8);
        HillBeacons last = Lands.lineOf(10, 1, 0, 2);
        last.bringWood(9, 1);
        Expect.same("the last hill", last.bestHill(), 9);
        last.bringWood(0, 29);
        last.bringWood(1, 29);
        Expect.same("the first one reaches one more", last.bestHill(), 0);
    }

    private static void promise38SmallestNumber() {
        Document.says("Promise 38", "of several the smallest number");
        HillBeacons land = Lands.of(10, 1, 0, 1);
        for (int i = 0; i < 10; i++) {
            Expect.same("of those from " + i + " on", land.bestHill(), i);
            land.light(i);
        }
    }

    private static void promise38NoHillCanBeLit() {
        Document.says("Promise 38", "-1 if no hill can be lit");
        Expect.same("no hill", new HillBeacons().bestHill(), -1);
        HillBeacons land = Lands.of(10, 0, 0, 1);
        Expect.same("ten without wood", land.bestHill(), -1);
        land.bringWood(9, 2);
        Expect.same("one with wood", land.bestHill(), 9);
        land.light(9);
        Expect.same("kindling with wood", land.bestHill(), -1);
        land.passMinutes(1);
        Expect.same("burning with wood", land.bestHill(), -1);
        land.douse(9);
        Expect.same("doused with wood", land.bestHill(), 9);
    }

    private static void promise39WithoutAny() {
        Document.says("Promise 39", "Returns the mean wood of all hills; 0 without any.");
        Expect.same("without any", new HillBeacons().meanWood(), 0.0);
        HillBeacons land = Lands.of(1, 0, 0, 1);
        Expect.same("one without wood", land.meanWood(), 0.0);
    }

    private static void promise39OneToTen() {
        Document.says("Promise 39", "Returns the mean wood of all hills");
        HillBeacons land = new HillBeacons();
        int sum = 0;
        for (int i = 1; i <= 10; i++) {
            int wood = i % 2 == 0 ? 30 : 7;
            land.addHill(wood, 0, 1);
            sum += wood;
            Expect.same("of " + i, land.meanWood(), sum / (double) i);
        }
        Expect.same("of ten full ones", Lands.of(10, 30, 0, 1).meanWood(), 30.0);
        HillBeacons one = Lands.of(10, 0, 0, 1);
        one.bringWood(9, 1);
        Expect.same("of one bundle and ten hills", one.meanWood(), 0.1);
    }

    private static void promise40NoHill() {
        Document.says("Promise 40", "A number d starts with 1883");
        Document.says("Promise 40", "hills(), minute(), haze(), glowLeft(), burningHills(),"
                + " timesLit(), timesMistaken();");
        HillBeacons land = new HillBeacons();
        Expect.same("no hill", land.digest(), 1883L * 31 * 31 * 31 * 31 * 31 * 31 * 31);
        land.setHaze(9);
        land.glow(30);
        land.passMinutes(1);
        long haze = ((1883L * 31 + 0) * 31 + 1) * 31 + 9;
        Expect.same("no hill, a minute later", land.digest(), (haze * 31 + 29) * 31 * 31 * 31);
        Expect.same("the same", land.digest(), digestOf(land));
    }

    private static void promise40WrapsAround() {
        Document.says("Promise 40", "Computes a checksum.");
        Document.says("Promise 40", "d becomes d * 31 + x, which wraps around as a 64-bit integer");
        Document.says("Promise 40", "Returns d.");
        for (int hills = 0; hills <= 10; hills++) {
            HillBeacons land = Lands.lineOf(hills, 30, 9, 5);
            Expect.same(hills + " hills", land.digest(), digestOf(land));
        }
        HillBeacons nine = Lands.inFlames(9);
        Expect.same("nine hills in flames", nine.digest(), digestOf(nine));
        for (int i = 1; i <= 40; i++) {
            HillBeacons ten = Lands.inFlames(10);
            ten.passMinutes(i);
            Expect.same("ten hills in flames, " + i + " later", ten.digest(), digestOf(ten));
        }
    }

    private static void promise40ForEachNumber() {
        Document.says("Promise 40", "for each hill: woodOf(), dampOf(), watchOf(), looksEast(),"
                + " isPost(), isDark(), isBurning(), minutesToBurn(), lookingFor()");
        Document.says("Promise 40", "for each hill, for each hill: milesBetween(), canSee().");
        HillBeacons one = new HillBeacons();
        one.addHill(3, 2, 4);
        one.turnEast(0);
        one.turnPost(0);
        one.glow(2);
        one.passMinutes(1);
        long[] due = {1, 1, 0, 1, 0, 0, 0, 3, 2, 4, 1, 1, 1, 0, 0, 1, -2, 0, 0, 0};
        long d = 1883;
        for (long x : due) {
            d = d * 31 + x;
        }
        Expect.same("one hill", one.digest(), d);
        for (int a = 0; a < 10; a++) {
            for (int b = 0; b < a; b++) {
                HillBeacons land = Lands.of(10, 5, 0, 1);
                land.setSight(a, b, 19 + b % 2);
                land.setHaze(a % 2);
                Expect.same("a sight", land.digest(), digestOf(land));
            }
        }
    }

    private static void promise40NoneAndDark() {
        Document.says("Promise 40", "the source of its fire (-1 without one, -2 if it is dark)");
        HillBeacons dark = Lands.of(1, 5, 0, 1);
        Expect.same("dark", dark.digest(), digestOfOne(5, 0, 1, 0, -2));
        dark.light(0);
        dark.douse(0);
        Expect.same("doused", dark.digest(), digestOfOne(4, 1, 1, 0, -2));
        dark.light(0);
        Expect.same("by hand", dark.digest(), digestOfOne(3, 2, 0, 1, 0));
        HillBeacons mistake = Lands.inFlames(10);
        Expect.same("3 has none", mistake.sourceOf(3), -1);
        Expect.same("with one that has none", mistake.digest(), digestOf(mistake));
    }

    /** The digest of a hill without damp, of watch 1, at minute 0. */
    private static long digestOfOne(int wood, int lit, int dark, int left, int source) {
        long[] numbers = {1, 0, 0, 0, 0, lit, 0, wood, 0, 1, 0, 0, dark, 0, left, 0, source, 0, 0, 0};
        long d = 1883;
        for (long number : numbers) {
            d = d * 31 + number;
        }
        return d;
    }

    /** The digest by the land's own other answers, computed without a bound and then cut. */
    private static long digestOf(HillBeacons land) {
        Sum sum = new Sum();
        sum.add(land.hills(), land.minute(), land.haze(), land.glowLeft(), land.burningHills(),
                land.timesLit(), land.timesMistaken());
        for (int i = 0; i < land.hills(); i++) {
            int source = land.isDark(i) ? -2 : land.sourceOf(i);
            sum.add(land.woodOf(i), land.dampOf(i), land.watchOf(i), oneIf(land.looksEast(i)),
                    oneIf(land.isPost(i)), oneIf(land.isDark(i)), oneIf(land.isBurning(i)),
                    land.minutesToBurn(i), land.lookingFor(i), source, land.answersTo(i));
        }
        for (int a = 0; a < land.hills(); a++) {
            for (int b = 0; b < land.hills(); b++) {
                sum.add(land.milesBetween(a, b), oneIf(land.canSee(a, b)));
            }
        }
        return sum.d.longValue();
    }

    private static int oneIf(boolean isSo) {
        return isSo ? 1 : 0;
    }

    private static final class Sum {
        BigInteger d = BigInteger.valueOf(1883);

        void add(int... numbers) {
            for (int x : numbers) {
                d = d.multiply(BigInteger.valueOf(31)).add(BigInteger.valueOf(x));
            }
        }
    }
}
