/** Promises 9 to 12: signals, and how a minute goes. */
public final class SignalTest {
    public static void main(String[] args) {
        promise9Light();
        promise9LightAnswersAnew();
        promise9LightRefuses();
        promise10Douse();
        promise10DouseRefuses();
        promise11Glow();
        promise12PassMinutes();
        promise12Looking();
        promise12LookingIsInterrupted();
        promise12OnlyWhatBurnsAsTheMinuteBegins();
        promise12NearestFireIsTheSource();
        promise12OnlySeenFiresAreSources();
        promise12MistakesSpread();
        promise12SourceIsTakenAsTheHillIsLit();
        promise12WoodBurnsDown();
        promise12HazeHidesFires();
        promise12Posts();
        promise12Glow();
        Expect.end();
    }

    private static void promise9Light() {
        HillBeacons land = new HillBeacons();
        land.addHill(10, 0, 1);
        land.addHill(1, 9, 1);
        Expect.same("light(0)", land.light(0), 1);
        Expect.same("wood of 0", land.woodOf(0), 9);
        Expect.same("source of 0", land.sourceOf(0), 0);
        Expect.same("0 is dark", land.isDark(0), false);
        Expect.same("0 burns", land.isBurning(0), false);
        Expect.same("minutes of 0", land.minutesToBurn(0), 1);
        Expect.same("light(1)", land.light(1), 10);
        Expect.same("wood of 1", land.woodOf(1), 0);
        Expect.same("source of 1", land.sourceOf(1), 1);
        Expect.same("times lit", land.timesLit(), 2);
        Expect.same("times mistaken", land.timesMistaken(), 0);
        Expect.same("passing", land.passMinutes(9), 0);
        Expect.same("1 burns after 9", land.isBurning(1), false);
        land.passMinutes(1);
        Expect.same("1 burns after 10", land.isBurning(1), true);
        HillBeacons looking = Lands.of(1, 5, 0, 5);
        looking.turnEast(0);
        looking.glow(4);
        looking.passMinutes(4);
        Expect.same("looking before it is lit", looking.lookingFor(0), 4);
        looking.light(0);
        Expect.same("looking as it is lit", looking.lookingFor(0), 0);
    }

    private static void promise9LightAnswersAnew() {
        HillBeacons land = Lands.of(2, 20, 0, 1);
        land.setSight(0, 1, 5);
        land.turnPost(1);
        land.light(0);
        land.passMinutes(3);
        Expect.same("answered", land.answersTo(0), 1);
        land.douse(0);
        Expect.same("answered, doused", land.answersTo(0), 1);
        land.light(0);
        Expect.same("answered, lit again", land.answersTo(0), 0);
        Expect.same("times lit", land.timesLit(), 3);
    }

    private static void promise9LightRefuses() {
        HillBeacons land = Lands.of(2, 1, 1, 1);
        Expect.refusesOtherHills("light", land, hill -> land.light(hill));
        land.light(0);
        Expect.refused("light of a kindling hill", Expect.BAD_STATE, land, () -> land.light(0));
        land.bringWood(0, 5);
        land.passMinutes(2);
        Expect.refused("light of a burning hill", Expect.BAD_STATE, land, () -> land.light(0));
        HillBeacons bare = Lands.of(1, 0, 0, 1);
        Expect.refused("light without wood", Expect.BAD_STATE, bare, () -> bare.light(0));
        bare.bringWood(0, 1);
        Expect.same("light with wood", bare.light(0), 1);
    }

    private static void promise10Douse() {
        HillBeacons land = Lands.of(2, 7, 3, 1);
        land.light(0);
        land.passMinutes(1);
        Expect.same("douse of a kindling hill", land.douse(0), 6);
        Expect.same("it is dark", land.isDark(0), true);
        Expect.same("it burns", land.isBurning(0), false);
        Expect.same("its minutes to burn", land.minutesToBurn(0), 0);
        Expect.same("it is mistaken", land.isMistaken(0), false);
        Expect.same("its wood", land.woodOf(0), 6);
        Expect.same("it does not burn later", land.minutesUntilBurning(0), -1);
        land.light(1);
        land.passMinutes(6);
        Expect.same("burning", land.burningHills(), 1);
        Expect.same("douse of a burning hill", land.douse(1), 4);
        Expect.same("burning then", land.burningHills(), 0);
        Expect.same("times lit", land.timesLit(), 2);
        Expect.same("light once more", land.light(1), 4);
    }

    private static void promise10DouseRefuses() {
        HillBeacons land = Lands.of(2, 2, 0, 1);
        Expect.refusesOtherHills("douse", land, hill -> land.douse(hill));
        Expect.refused("douse of a dark hill", Expect.BAD_STATE, land, () -> land.douse(1));
        land.light(1);
        land.douse(1);
        Expect.refused("douse twice", Expect.BAD_STATE, land, () -> land.douse(1));
    }

    private static void promise11Glow() {
        HillBeacons land = Lands.of(1, 5, 0, 1);
        Expect.same("glow(30)", land.glow(30), 0);
        Expect.same("glow left", land.glowLeft(), 30);
        land.passMinutes(5);
        Expect.same("glow(2)", land.glow(2), 25);
        Expect.same("glow left then", land.glowLeft(), 2);
        Expect.same("glow(0)", land.glow(0), 2);
        Expect.same("glow left at last", land.glowLeft(), 0);
        int[] wrong = {-1, 31, Integer.MIN_VALUE, Integer.MAX_VALUE};
        for (int minutes : wrong) {
            Expect.refused("glow(" + minutes + ")", Expect.BAD_NUMBER, land,
                    () -> land.glow(minutes));
        }
    }

    private static void promise12PassMinutes() {
        HillBeacons land = Lands.of(4, 20, 0, 1);
        for (int i = 0; i < 3; i++) {
            land.setSight(i, i + 1, 20);
        }
        land.light(0);
        Expect.same("minute 1 lights", land.passMinutes(1), 0);
        Expect.same("minute 2 lights", land.passMinutes(1), 1);
        Expect.same("minute 3 lights", land.passMinutes(1), 0);
        Expect.same("minute 4 lights", land.passMinutes(1), 1);
        Expect.same("the next 96 light", land.passMinutes(96), 1);
        Expect.same("minute", land.minute(), 100);
        Expect.same("100 more light", land.passMinutes(100), 0);
        Expect.same("minute then", land.minute(), 200);
        Expect.same("times lit", land.timesLit(), 4);
        int[] wrong = {0, -1, 101, Integer.MIN_VALUE, Integer.MAX_VALUE};
        for (int minutes : wrong) {
            Expect.refused("passMinutes(" + minutes + ")", Expect.BAD_NUMBER, land,
                    () -> land.passMinutes(minutes));
        }
    }

    private static void promise12Looking() {
        HillBeacons land = new HillBeacons();
        land.addHill(20, 0, 1);
        land.addHill(20, 2, 3);
        land.addHill(0, 0, 1);
        land.setSight(0, 1, 5);
        land.setSight(0, 2, 5);
        land.light(0);
        land.passMinutes(1);
        Expect.same("looking at what kindled", land.lookingFor(1), 0);
        land.passMinutes(2);
        Expect.same("looking for 2 minutes", land.lookingFor(1), 2);
        Expect.same("still dark", land.isDark(1), true);
        Expect.same("lit with its watch over", land.passMinutes(1), 1);
        Expect.same("looking as it is lit", land.lookingFor(1), 0);
        Expect.same("it takes its damp and 1", land.minutesToBurn(1), 3);
        land.passMinutes(2);
        Expect.same("minutes to burn", land.minutesToBurn(1), 1);
        Expect.same("a kindling hill does not look", land.lookingFor(1), 0);
        Expect.same("a hill without wood does not look", land.lookingFor(2), 0);
        Expect.same("nor is it lit", land.isDark(2), true);
        land.passMinutes(1);
        Expect.same("it burns", land.isBurning(1), true);
        Expect.same("minutes of a burning hill", land.minutesToBurn(1), 0);
    }

    private static void promise12LookingIsInterrupted() {
        HillBeacons land = Lands.of(2, 20, 0, 3);
        land.setSight(0, 1, 5);
        land.light(0);
        land.passMinutes(3);
        Expect.same("looking", land.lookingFor(1), 2);
        land.setSight(0, 1, 0);
        Expect.same("looking until the minute goes", land.lookingFor(1), 2);
        land.passMinutes(1);
        Expect.same("looking at nothing", land.lookingFor(1), 0);
        land.setSight(0, 1, 5);
        land.passMinutes(2);
        Expect.same("looking anew", land.lookingFor(1), 2);
        land.turnEast(1);
        land.douse(0);
        land.glow(1);
        land.passMinutes(1);
        Expect.same("a glow completes the watch", land.isMistaken(1), true);
    }

    private static void promise12OnlyWhatBurnsAsTheMinuteBegins() {
        HillBeacons land = Lands.of(3, 1, 0, 1);
        land.setSight(0, 1, 5);
        land.setSight(1, 2, 5);
        land.light(0);
        land.passMinutes(1);
        Expect.same("0 burns without wood", land.isBurning(0), true);
        Expect.same("0's last minute lights 1", land.passMinutes(1), 1);
        Expect.same("0 is dark", land.isDark(0), true);
        Expect.same("1 has its source", land.sourceOf(1), 0);
        Expect.same("1 has not begun to take less", land.minutesToBurn(1), 1);
        Expect.same("as 1 begins to burn, 2 sees nothing yet", land.passMinutes(1), 0);
        Expect.same("1 uses no wood as it begins", land.isBurning(1), true);
        Expect.same("then 2 is lit", land.passMinutes(1), 1);
    }

    private static void promise12NearestFireIsTheSource() {
        HillBeacons land = Lands.of(5, 30, 0, 1);
        land.setSight(4, 1, 6);
        land.setSight(4, 2, 5);
        land.setSight(4, 3, 5);
        land.light(1);
        land.light(2);
        land.light(3);
        land.passMinutes(2);
        Expect.same("fewest miles, smallest number", land.sourceOf(4), 2);
        land.douse(4);
        land.setSight(4, 2, 6);
        land.passMinutes(1);
        Expect.same("fewest miles, greatest number", land.sourceOf(4), 3);
        land.douse(4);
        land.setSight(4, 3, 7);
        land.passMinutes(1);
        Expect.same("smallest number of the rest", land.sourceOf(4), 1);
    }

    private static void promise12OnlySeenFiresAreSources() {
        HillBeacons land = Lands.of(4, 30, 0, 1);
        land.setSight(0, 3, 20);
        land.setSight(1, 3, 19);
        land.setSight(2, 3, 1);
        land.light(0);
        land.light(1);
        land.passMinutes(2);
        Expect.same("the dark hill is nearer, but no fire", land.sourceOf(3), 1);
        land.douse(3);
        land.setSight(1, 3, 0);
        land.passMinutes(1);
        Expect.same("the only one it sees", land.sourceOf(3), 0);
    }

    private static void promise12MistakesSpread() {
        HillBeacons land = Lands.of(3, 30, 0, 1);
        land.turnEast(0);
        land.setSight(0, 1, 3);
        land.setSight(1, 2, 3);
        land.glow(1);
        Expect.same("the glow lights", land.passMinutes(1), 1);
        Expect.same("0 is mistaken", land.isMistaken(0), true);
        Expect.same("others are lit by it", land.passMinutes(4), 2);
        Expect.same("2 is mistaken", land.isMistaken(2), true);
        Expect.same("2 has no source", land.sourceOf(2), -1);
        Expect.same("times mistaken", land.timesMistaken(), 3);
        Expect.same("times lit", land.timesLit(), 3);
    }

    private static void promise12SourceIsTakenAsTheHillIsLit() {
        HillBeacons land = Lands.of(3, 30, 0, 1);
        land.setSight(0, 1, 3);
        land.setSight(1, 2, 3);
        land.light(0);
        land.passMinutes(5);
        Expect.same("the source is where the signal came from", land.sourceOf(2), 0);
        land.douse(0);
        Expect.same("it stays as that hill is doused", land.sourceOf(2), 0);
        land.douse(1);
        land.passMinutes(1);
        Expect.same("and the signal comes back from there", land.sourceOf(1), 0);
        land.passMinutes(2);
        Expect.same("to the hill itself", land.sourceOf(0), 0);
        HillBeacons both = Lands.of(2, 30, 0, 1);
        both.turnEast(1);
        both.setSight(0, 1, 3);
        both.light(0);
        both.passMinutes(1);
        both.glow(5);
        both.passMinutes(1);
        Expect.same("a fire counts before the glow", both.sourceOf(1), 0);
    }

    private static void promise12WoodBurnsDown() {
        HillBeacons land = Lands.of(1, 3, 1, 1);
        land.light(0);
        Expect.same("wood as it kindles", land.woodOf(0), 2);
        land.passMinutes(2);
        Expect.same("wood as it begins to burn", land.woodOf(0), 2);
        Expect.same("it burns", land.isBurning(0), true);
        land.passMinutes(1);
        Expect.same("wood after a minute", land.woodOf(0), 1);
        land.passMinutes(1);
        Expect.same("wood after two", land.woodOf(0), 0);
        Expect.same("it still burns", land.isBurning(0), true);
        land.passMinutes(1);
        Expect.same("it is dark", land.isDark(0), true);
        Expect.same("wood then", land.woodOf(0), 0);
    }

    private static void promise12HazeHidesFires() {
        HillBeacons land = Lands.of(2, 30, 0, 1);
        land.setSight(0, 1, 15);
        land.setHaze(3);
        land.light(0);
        Expect.same("nothing is seen in the haze", land.passMinutes(5), 0);
        Expect.same("nor looked at", land.lookingFor(1), 0);
        land.setHaze(2);
        Expect.same("with less haze it is", land.passMinutes(1), 1);
    }

    private static void promise12Posts() {
        HillBeacons land = Lands.of(4, 30, 1, 1);
        land.setSight(0, 1, 5);
        land.setSight(0, 2, 5);
        land.setSight(0, 3, 5);
        land.turnPost(1);
        land.turnPost(2);
        land.light(0);
        land.passMinutes(4);
        Expect.same("posts do not answer as they kindle", land.answersTo(0), 0);
        land.passMinutes(1);
        Expect.same("posts answer as they burn", land.answersTo(0), 2);
        land.passMinutes(5);
        Expect.same("once each", land.answersTo(0), 2);
        Expect.same("others are not answered", land.answersTo(1), 0);
        HillBeacons self = Lands.of(1, 5, 0, 1);
        self.turnPost(0);
        self.light(0);
        self.passMinutes(1);
        Expect.same("a post lit by hand is its own source", self.answersTo(0), 1);
        HillBeacons mistake = Lands.of(1, 5, 0, 1);
        mistake.turnPost(0);
        mistake.turnEast(0);
        mistake.glow(2);
        mistake.passMinutes(2);
        Expect.same("a mistaken post burns", mistake.isBurning(0), true);
        Expect.same("and answers nobody", mistake.answersTo(0), 0);
    }

    private static void promise12Glow() {
        HillBeacons land = Lands.of(2, 30, 0, 3);
        land.turnEast(0);
        land.glow(2);
        land.passMinutes(2);
        Expect.same("looking at the glow", land.lookingFor(0), 2);
        Expect.same("the other does not look east", land.lookingFor(1), 0);
        Expect.same("glow left", land.glowLeft(), 0);
        Expect.same("the glow was too short", land.passMinutes(1), 0);
        Expect.same("looking at nothing", land.lookingFor(0), 0);
        Expect.same("no glow gets no less", land.glowLeft(), 0);
        land.glow(3);
        Expect.same("this one lasts", land.passMinutes(3), 1);
        Expect.same("it has no source", land.isMistaken(0), true);
    }
}
