/** The bounds that the document names in what its words mean and in how a minute goes. */
public final class TermsBoundsTest {
    private static final String TERMS = "Terms";

    public static void main(String[] args) {
        objectIsUsedFor512Calls();
        timeIsToldFrom0();
        thereAreAtMostTenHills();
        woodIs0To30();
        dampIs0To9();
        watchIs1To5();
        looksEastOrNot();
        isAPostOrNot();
        sightIs1To20OrNone();
        hazeIs0To9();
        seesNoMoreThan20LessTwiceTheHaze();
        keeperSeesNoMoreThan20LessTwiceTheHaze();
        noHillSeesWithoutASight();
        hillIsDarkKindlingOrBurning();
        hillIsLitWithItsLastBundle();
        hillTakesItsDampAnd1();
        sourceIsAHillOrNone();
        keeperLooksFor0AtFirst();
        lastMinuteOfAFireIsSeen();
        beginningFireIsNotSeenYet();
        step1NeedsABundle();
        step1NeedsABurningHill();
        step1NeedsAGlowAndAnEastward();
        step1LooksOneMinuteMore();
        step1OtherwiseFor0();
        step1OtherHillsFor0();
        step2WatchOfEachLength();
        step2FewestMiles();
        step2SmallestNumber();
        step2WithoutAFireNoSource();
        step3OnlyWhatWasKindling();
        step3With0LeftItBurns();
        step3PostsAnswerOnceMore();
        step3OnlyPostsWithASource();
        step4OnlyWhatWasBurning();
        step4WithNoneToUseItIsDark();
        step5GlowUntil0();
        step5MinuteIsOneGreater();
        throwingChangesNothing();
        firstNamedIsThrown();
        Document.allTested("What it is");
        Document.allTested(TERMS);
        Expect.end();
    }

    private static void objectIsUsedFor512Calls() {
        Document.says("What it is", "An object is used for at most 512 calls");
        HillBeacons land = new HillBeacons();
        land.addHill(30, 0, 1);
        for (int calls = 1; calls < 511; calls++) {
            land.passMinutes(100);
        }
        Expect.same("minute, the 512th call", land.minute(), 51000);
    }

    private static void timeIsToldFrom0() {
        Document.says(TERMS, "Time is told in minutes, from 0.");
        Expect.same("minute of a new object", new HillBeacons().minute(), 0);
    }

    private static void thereAreAtMostTenHills() {
        Document.says(TERMS, "There are at most 10, numbered from 0.");
        HillBeacons land = new HillBeacons();
        Expect.refused("hill 0 of none", Expect.NO_SUCH_HILL, land, () -> land.woodOf(0));
        for (int i = 0; i < 10; i++) {
            Expect.same("number of the hill", land.addHill(i, 0, 1), i);
        }
        Expect.refused("an eleventh hill", Expect.BAD_STATE, land, () -> land.addHill(10, 0, 1));
        Expect.same("hill 0", land.woodOf(0), 0);
        Expect.same("hill 9", land.woodOf(9), 9);
        Expect.refused("hill -1", Expect.NO_SUCH_HILL, land, () -> land.woodOf(-1));
        Expect.refused("hill 10", Expect.NO_SUCH_HILL, land, () -> land.woodOf(10));
    }

    private static void woodIs0To30() {
        Document.says(TERMS, "Each has wood, 0 to 30 bundles");
        HillBeacons land = new HillBeacons();
        Expect.refused("-1 bundles", Expect.BAD_NUMBER, land, () -> land.addHill(-1, 0, 1));
        land.addHill(0, 0, 1);
        Expect.same("0 bundles", land.woodOf(0), 0);
        land.addHill(30, 0, 1);
        Expect.same("30 bundles", land.woodOf(1), 30);
        Expect.refused("31 bundles", Expect.BAD_NUMBER, land, () -> land.addHill(31, 0, 1));
        land.light(1);
        land.passMinutes(100);
        Expect.same("never less than 0", land.woodOf(1), 0);
        land.bringWood(1, 30);
        land.bringWood(1, 30);
        Expect.same("never more than 30", land.woodOf(1), 30);
    }

    private static void dampIs0To9() {
        Document.says(TERMS, "damp, 0 to 9");
        HillBeacons land = new HillBeacons();
        Expect.refused("damp -1", Expect.BAD_NUMBER, land, () -> land.addHill(5, -1, 1));
        land.addHill(5, 0, 1);
        Expect.same("damp 0", land.dampOf(0), 0);
        land.addHill(5, 9, 1);
        Expect.same("damp 9", land.dampOf(1), 9);
        Expect.refused("damp 10", Expect.BAD_NUMBER, land, () -> land.addHill(5, 10, 1));
    }

    private static void watchIs1To5() {
        Document.says(TERMS, "and a watch, 1 to 5");
        HillBeacons land = new HillBeacons();
        Expect.refused("watch 0", Expect.BAD_NUMBER, land, () -> land.addHill(5, 0, 0));
        land.addHill(5, 0, 1);
        Expect.same("watch 1", land.watchOf(0), 1);
        land.addHill(5, 0, 5);
        Expect.same("watch 5", land.watchOf(1), 5);
        Expect.refused("watch 6", Expect.BAD_NUMBER, land, () -> land.addHill(5, 0, 6));
    }

    private static void looksEastOrNot() {
        Document.says(TERMS, "it looks east, or not (not, at first)");
        HillBeacons land = Lands.of(10, 5, 0, 1);
        for (int i = 0; i < 10; i++) {
            Expect.same("east at first, hill " + i, land.looksEast(i), false);
        }
        land.turnEast(9);
        Expect.same("east then", land.looksEast(9), true);
    }

    private static void isAPostOrNot() {
        Document.says(TERMS, "it is a post, or not (not, at first)");
        HillBeacons land = Lands.of(10, 5, 0, 1);
        for (int i = 0; i < 10; i++) {
            Expect.same("post at first, hill " + i, land.isPost(i), false);
        }
        land.turnPost(9);
        Expect.same("post then", land.isPost(9), true);
    }

    private static void sightIs1To20OrNone() {
        Document.says(TERMS, "there is a sight over some miles, 1 to 20, or none (none, at first)");
        HillBeacons land = Lands.of(10, 5, 0, 1);
        for (int a = 0; a < 10; a++) {
            for (int b = 0; b < 10; b++) {
                Expect.same("sight at first", land.milesBetween(a, b), 0);
            }
        }
        Expect.refused("-1 miles", Expect.BAD_NUMBER, land, () -> land.setSight(0, 9, -1));
        land.setSight(0, 9, 1);
        Expect.same("1 mile", land.milesBetween(0, 9), 1);
        Expect.same("it is seen", land.canSee(0, 9), true);
        land.setSight(0, 9, 20);
        Expect.same("20 miles", land.milesBetween(0, 9), 20);
        Expect.refused("21 miles", Expect.BAD_NUMBER, land, () -> land.setSight(0, 9, 21));
    }

    private static void hazeIs0To9() {
        Document.says(TERMS, "There is a haze, 0 to 9 (0, at first).");
        HillBeacons land = new HillBeacons();
        Expect.same("haze at first", land.haze(), 0);
        Expect.refused("haze -1", Expect.BAD_NUMBER, land, () -> land.setHaze(-1));
        land.setHaze(9);
        Expect.same("haze 9", land.haze(), 9);
        Expect.refused("haze 10", Expect.BAD_NUMBER, land, () -> land.setHaze(10));
        land.setHaze(0);
        Expect.same("haze 0", land.haze(), 0);
    }

    private static void seesNoMoreThan20LessTwiceTheHaze() {
        Document.says(TERMS, "over no more miles than 20 less twice the haze");
        HillBeacons land = Lands.of(2, 5, 0, 1);
        for (int haze = 0; haze <= 9; haze++) {
            int most = 20 - 2 * haze;
            land.setHaze(haze);
            land.setSight(0, 1, most);
            Expect.same("over " + most + " miles, haze " + haze, land.canSee(0, 1), true);
            Expect.same("steps over " + most + " miles", land.fewestSteps(0, 1), 1);
            if (most < 20) {
                land.setSight(0, 1, most + 1);
                Expect.same("over one mile more, haze " + haze, land.canSee(0, 1), false);
                Expect.same("steps over one mile more", land.fewestSteps(0, 1), -1);
            }
        }
    }

    private static void keeperSeesNoMoreThan20LessTwiceTheHaze() {
        Document.says(TERMS, "over no more miles than 20 less twice the haze");
        for (int haze = 1; haze <= 9; haze++) {
            HillBeacons land = Lands.roundAFire(3, 5, 0, 5);
            land.setHaze(haze);
            land.setSight(0, 1, 20 - 2 * haze);
            land.setSight(0, 2, 20 - 2 * haze + 1);
            land.passMinutes(1);
            Expect.same("looking in haze " + haze, Lands.looking(land), "010");
        }
    }

    private static void noHillSeesWithoutASight() {
        Document.says(TERMS, "A hill sees another one, if there is a sight between them");
        HillBeacons land = Lands.roundAFire(2, 5, 0, 1);
        land.setSight(0, 1, 0);
        for (int haze = 0; haze <= 9; haze++) {
            land.setHaze(haze);
            Expect.same("without a sight, haze " + haze, land.canSee(0, 1), false);
            Expect.same("lit without a sight", land.passMinutes(1), 0);
        }
    }

    private static void hillIsDarkKindlingOrBurning() {
        Document.says(TERMS, "A hill is dark (at first), kindling, or burning.");
        HillBeacons land = Lands.of(10, 1, 1, 1);
        Expect.same("at first", Lands.fires(land), "dddddddddd");
        land.light(9);
        Expect.same("as it is lit", Lands.fires(land), "dddddddddk");
        land.passMinutes(1);
        Expect.same("1 minute later", Lands.fires(land), "dddddddddk");
        land.passMinutes(1);
        Expect.same("2 minutes later", Lands.fires(land), "dddddddddb");
        land.passMinutes(1);
        Expect.same("as the wood ends", Lands.fires(land), "dddddddddd");
    }

    private static void hillIsLitWithItsLastBundle() {
        Document.says(TERMS, "As a hill is lit, a bundle of its wood is used,"
                + " its keeper has been looking for 0 minutes");
        HillBeacons land = Lands.roundAFire(4, 0, 0, 2);
        land.bringWood(1, 1);
        land.bringWood(2, 30);
        land.bringWood(3, 1);
        land.passMinutes(1);
        Expect.same("looking", Lands.looking(land), "0111");
        land.light(3);
        Expect.same("looking, as 3 is lit by hand", Lands.looking(land), "0110");
        Expect.same("its last bundle", land.woodOf(3), 0);
        land.passMinutes(1);
        Expect.same("looking, as 1 and 2 are lit", Lands.looking(land), "0000");
        Expect.same("the last bundle of 1", land.woodOf(1), 0);
        Expect.same("the first bundle of 2", land.woodOf(2), 29);
    }

    private static void hillTakesItsDampAnd1() {
        Document.says(TERMS, "it takes as many minutes as its damp at that time, and 1,"
                + " until it burns");
        for (int damp = 0; damp <= 9; damp++) {
            HillBeacons land = Lands.roundAFire(3, 5, damp, 1);
            land.setDamp(1, 9 - damp);
            land.setDamp(1, damp);
            land.light(2);
            Expect.same("by hand, damp " + damp, land.minutesToBurn(2), damp + 1);
            land.passMinutes(1);
            Expect.same("by a signal, damp " + damp, land.minutesToBurn(1), damp + 1);
            land.setDamp(1, 9 - damp);
            Expect.same("damp at that time", land.minutesToBurn(1), damp + 1);
            if (damp > 0) {
                Expect.same("kindling before", Lands.fires(land), "bkk");
                land.passMinutes(damp);
            }
            Expect.same("2 burns, 1 is kindling", Lands.fires(land), "bkb");
            land.passMinutes(1);
            Expect.same("1 burns", land.isBurning(1), true);
        }
    }

    private static void sourceIsAHillOrNone() {
        Document.says(TERMS, "A fire that is kindling or burning has a source:"
                + " a hill, or none, which is a mistake.");
        HillBeacons land = Lands.of(10, 9, 1, 1);
        land.light(0);
        land.light(9);
        land.turnEast(5);
        land.glow(1);
        land.passMinutes(1);
        Expect.same("fires", Lands.fires(land), "kddddkdddk");
        Expect.same("kindling from 0", land.sourceOf(0), 0);
        Expect.same("kindling from 9", land.sourceOf(9), 9);
        Expect.same("kindling from none", land.sourceOf(5), -1);
        Expect.same("a mistake", land.isMistaken(5), true);
        Expect.same("no mistake", land.isMistaken(0), false);
        land.passMinutes(2);
        Expect.same("fires then", Lands.fires(land), "bddddbdddb");
        Expect.same("burning from 0", land.sourceOf(0), 0);
        Expect.same("burning from 9", land.sourceOf(9), 9);
        Expect.same("burning from none", land.sourceOf(5), -1);
    }

    private static void keeperLooksFor0AtFirst() {
        Document.says(TERMS, "The keeper of a dark hill has been looking at something"
                + " for some minutes (0, at first).");
        HillBeacons land = Lands.of(10, 9, 0, 5);
        Expect.same("at first", Lands.looking(land), "0000000000");
        for (int i = 0; i < 10; i++) {
            land.turnEast(i);
        }
        land.glow(4);
        land.passMinutes(4);
        Expect.same("for some minutes", Lands.looking(land), "4444444444");
    }

    private static void lastMinuteOfAFireIsSeen() {
        Document.says(TERMS, "what hills see, and what burns, is taken as the minute begins");
        for (int fire = 0; fire <= 2; fire += 2) {
            HillBeacons land = Lands.of(3, 1, 0, 1);
            land.setSight(fire, 1, 5);
            land.light(fire);
            land.passMinutes(1);
            Expect.same("hill " + fire + " burns its last", land.woodOf(fire), 0);
            land.passMinutes(1);
            Expect.same("it is dark, and 1 is lit", Lands.fires(land), "dkd");
            Expect.same("with its source", land.sourceOf(1), fire);
        }
    }

    private static void beginningFireIsNotSeenYet() {
        Document.says(TERMS, "what hills see, and what burns, is taken as the minute begins");
        for (int fire = 0; fire <= 2; fire += 2) {
            HillBeacons land = Lands.of(3, 9, 0, 1);
            land.setSight(fire, 1, 5);
            land.light(fire);
            land.passMinutes(1);
            Expect.same("as " + fire + " begins to burn", land.isDark(1), true);
            Expect.same("looking then", land.lookingFor(1), 0);
            land.passMinutes(1);
            Expect.same("a minute later", land.isDark(1), false);
        }
        HillBeacons last = Lands.of(1, 9, 0, 1);
        last.turnEast(0);
        last.glow(1);
        last.passMinutes(1);
        Expect.same("the last minute of a glow is seen", Lands.fires(last), "k");
    }

    private static void step1NeedsABundle() {
        Document.says(TERMS, "Each hill that is dark and has wood looks");
        HillBeacons land = Lands.roundAFire(3, 0, 0, 5);
        land.bringWood(2, 1);
        land.passMinutes(3);
        Expect.same("with 0 and 1 bundle", Lands.looking(land), "003");
        land.bringWood(1, 1);
        Expect.same("as a bundle comes", Lands.looking(land), "003");
        land.passMinutes(1);
        Expect.same("a minute later", Lands.looking(land), "014");
    }

    private static void step1NeedsABurningHill() {
        Document.says(TERMS, "if it sees a burning hill");
        HillBeacons land = Lands.of(3, 2, 1, 5);
        land.setSight(0, 1, 5);
        land.setSight(1, 2, 5);
        land.passMinutes(1);
        Expect.same("at dark hills", Lands.looking(land), "000");
        land.light(0);
        land.passMinutes(2);
        Expect.same("at a kindling hill", Lands.looking(land), "000");
        land.passMinutes(1);
        Expect.same("at a burning hill", Lands.looking(land), "010");
        land.passMinutes(1);
        Expect.same("at its last minute", Lands.looking(land), "020");
        Expect.same("it went out", Lands.fires(land), "ddd");
        land.passMinutes(1);
        Expect.same("at a dark hill", Lands.looking(land), "000");
    }

    private static void step1NeedsAGlowAndAnEastward() {
        Document.says(TERMS, "or if it looks east and the sky glows");
        HillBeacons land = Lands.of(2, 9, 0, 5);
        land.turnEast(1);
        land.passMinutes(1);
        Expect.same("without a glow", Lands.looking(land), "00");
        land.glow(1);
        land.passMinutes(1);
        Expect.same("with a glow of 1 minute", Lands.looking(land), "01");
        land.passMinutes(1);
        Expect.same("behind it", Lands.looking(land), "00");
        land.glow(2);
        land.glow(0);
        land.passMinutes(1);
        Expect.same("with a glow of 0 minutes", Lands.looking(land), "00");
    }

    private static void step1LooksOneMinuteMore() {
        Document.says(TERMS, "its keeper has been looking for one minute more");
        HillBeacons land = Lands.roundAFire(4, 9, 0, 5);
        land.turnEast(2);
        land.turnEast(3);
        land.setSight(0, 3, 0);
        land.glow(30);
        for (int i = 1; i <= 4; i++) {
            land.passMinutes(1);
            String due = "0" + i + i + i;
            Expect.same("at a fire, at both, at the glow", Lands.looking(land), due);
        }
    }

    private static void step1OtherwiseFor0() {
        Document.says(TERMS, "otherwise for 0");
        HillBeacons land = Lands.roundAFire(2, 9, 0, 5);
        land.passMinutes(4);
        Expect.same("a minute before the watch is over", Lands.looking(land), "04");
        land.setHaze(8);
        land.passMinutes(1);
        Expect.same("as nothing is seen", Lands.looking(land), "00");
        land.setHaze(0);
        Expect.same("lit in the next 4", land.passMinutes(4), 0);
        Expect.same("looking anew", Lands.looking(land), "04");
        Expect.same("lit in the fifth", land.passMinutes(1), 1);
    }

    private static void step1OtherHillsFor0() {
        Document.says(TERMS, "Each other hill: for 0.");
        HillBeacons land = Lands.roundAFire(4, 9, 9, 2);
        land.addHill(0, 0, 1);
        land.setSight(0, 4, 5);
        land.light(1);
        land.setDamp(2, 0);
        land.light(2);
        land.passMinutes(1);
        Expect.same("fires", Lands.fires(land), "bkbdd");
        Expect.same("burning, kindling, dark, and without wood", Lands.looking(land), "00010");
        land.setSight(1, 2, 5);
        land.passMinutes(2);
        Expect.same("fires then", Lands.fires(land), "bkbkd");
        Expect.same("looking then", Lands.looking(land), "00000");
    }

    private static void step2WatchOfEachLength() {
        Document.says(TERMS, "Each hill whose keeper has been looking for as many minutes"
                + " as its watch, or more, is lit.");
        for (int watch = 1; watch <= 5; watch++) {
            HillBeacons land = Lands.roundAFire(10, 9, 0, watch);
            land.turnEast(9);
            land.setSight(0, 9, 0);
            land.glow(30);
            for (int minute = 1; minute < watch; minute++) {
                Expect.same("lit too soon, watch " + watch, land.passMinutes(1), 0);
                Expect.same("looking", land.lookingFor(1), minute);
            }
            Expect.same("lit, watch " + watch, land.passMinutes(1), 9);
            Expect.same("fires", Lands.fires(land), "bkkkkkkkkk");
        }
    }

    private static void step2FewestMiles() {
        Document.says(TERMS, "Its source is that of the burning hill"
                + " which it sees over the fewest miles");
        int[][] miles = {{1, 2}, {2, 1}, {19, 20}, {20, 19}, {1, 20}, {20, 1}};
        for (int[] over : miles) {
            HillBeacons land = Lands.of(3, 9, 0, 1);
            land.setSight(1, 0, over[0]);
            land.setSight(1, 2, over[1]);
            land.light(0);
            land.light(2);
            land.passMinutes(2);
            int due = over[0] < over[1] ? 0 : 2;
            Expect.same("over " + over[0] + " and " + over[1], land.sourceOf(1), due);
        }
        HillBeacons land = Lands.of(4, 9, 0, 1);
        land.setSight(1, 0, 20);
        land.setSight(1, 2, 1);
        land.setSight(1, 3, 2);
        land.light(0);
        land.setDamp(2, 9);
        land.light(2);
        land.passMinutes(2);
        Expect.same("only burning hills count", land.sourceOf(1), 0);
    }

    private static void step2SmallestNumber() {
        Document.says(TERMS, "of several the one with the smallest number");
        HillBeacons land = Lands.of(10, 30, 0, 1);
        for (int i = 0; i < 10; i++) {
            if (i != 4) {
                land.setSight(4, i, 20);
                land.light(i);
            }
        }
        int[] due = {0, 1, 2, 3, 5, 6, 7, 8, 9};
        for (int i = 0; i < due.length; i++) {
            land.passMinutes(i == 0 ? 2 : 1);
            Expect.same("of those from " + due[i] + " on", land.sourceOf(4), due[i]);
            land.douse(due[i]);
            land.setSight(4, due[i], 0);
            land.douse(4);
        }
    }

    private static void step2WithoutAFireNoSource() {
        Document.says(TERMS, "if it sees none, it has none");
        HillBeacons land = Lands.roundAFire(4, 9, 0, 1);
        for (int i = 1; i < 4; i++) {
            land.turnEast(i);
        }
        land.setSight(0, 2, 0);
        land.setSight(0, 3, 20);
        land.setSight(2, 3, 1);
        land.glow(1);
        land.passMinutes(1);
        Expect.same("sees a fire and the glow", land.sourceOf(1), 0);
        Expect.same("sees the glow alone", land.sourceOf(2), -1);
        Expect.same("sees a far fire, and a near dark hill", land.sourceOf(3), 0);
        HillBeacons next = Lands.lineOf(2, 9, 0, 1);
        next.turnEast(0);
        next.glow(1);
        next.passMinutes(3);
        Expect.same("sees a fire without a source", next.sourceOf(1), -1);
    }

    private static void step3OnlyWhatWasKindling() {
        Document.says(TERMS, "Each hill that was kindling as the minute began"
                + " takes a minute less");
        HillBeacons land = Lands.roundAFire(3, 9, 3, 1);
        land.setSight(0, 2, 0);
        land.light(2);
        land.passMinutes(1);
        Expect.same("1, lit in this minute", land.minutesToBurn(1), 4);
        Expect.same("2, kindling before", land.minutesToBurn(2), 3);
        land.passMinutes(1);
        Expect.same("1 a minute later", land.minutesToBurn(1), 3);
        Expect.same("2 a minute later", land.minutesToBurn(2), 2);
        Expect.same("0, burning", land.minutesToBurn(0), 0);
    }

    private static void step3With0LeftItBurns() {
        Document.says(TERMS, "with 0 left it burns");
        HillBeacons land = Lands.of(2, 9, 0, 1);
        land.setDamp(1, 1);
        land.light(0);
        land.light(1);
        Expect.same("with 1 and 2 left", Lands.fires(land), "kk");
        land.passMinutes(1);
        Expect.same("with 0 and 1 left", Lands.fires(land), "bk");
        land.passMinutes(1);
        Expect.same("with 0 left", Lands.fires(land), "bb");
    }

    private static void step3PostsAnswerOnceMore() {
        Document.says(TERMS, "If it is a post and has a source,"
                + " the source has been answered once more.");
        HillBeacons land = Lands.roundAFire(10, 9, 0, 1);
        for (int i = 1; i < 10; i++) {
            land.turnPost(i);
        }
        land.passMinutes(1);
        Expect.same("as they kindle", land.answersTo(0), 0);
        land.turnPost(9);
        land.passMinutes(1);
        Expect.same("as all but 9 burn as posts", land.answersTo(0), 8);
        land.turnPost(9);
        land.passMinutes(1);
        Expect.same("as they burn on", land.answersTo(0), 8);
        for (int i = 1; i < 10; i++) {
            Expect.same("to hill " + i, land.answersTo(i), 0);
        }
        HillBeacons late = Lands.roundAFire(2, 9, 1, 1);
        late.passMinutes(2);
        late.turnPost(1);
        late.passMinutes(1);
        Expect.same("a post as it burns, not as it was lit", late.answersTo(0), 1);
    }

    private static void step3OnlyPostsWithASource() {
        Document.says(TERMS, "If it is a post and has a source");
        HillBeacons land = Lands.of(3, 9, 0, 1);
        land.turnEast(0);
        land.turnPost(0);
        land.turnPost(1);
        land.turnPost(2);
        land.setSight(0, 1, 5);
        land.glow(1);
        land.passMinutes(4);
        Expect.same("mistaken posts burn", Lands.fires(land), "bbd");
        for (int i = 0; i < 3; i++) {
            Expect.same("they answer nobody, not " + i, land.answersTo(i), 0);
        }
        land.light(2);
        land.passMinutes(1);
        Expect.same("a post lit by hand answers itself", land.answersTo(2), 1);
    }

    private static void step4OnlyWhatWasBurning() {
        Document.says(TERMS, "Each hill that was burning as the minute began"
                + " uses a bundle of wood");
        HillBeacons land = Lands.roundAFire(3, 9, 1, 1);
        int before = land.woodOf(0);
        land.setSight(0, 2, 0);
        land.passMinutes(1);
        Expect.same("burning", land.woodOf(0), before - 1);
        Expect.same("lit in this minute", land.woodOf(1), 8);
        Expect.same("dark", land.woodOf(2), 9);
        land.passMinutes(1);
        Expect.same("kindling", land.woodOf(1), 8);
        land.passMinutes(1);
        Expect.same("beginning to burn", Lands.fires(land), "bbd");
        Expect.same("its wood then", land.woodOf(1), 8);
        land.passMinutes(1);
        Expect.same("burning then", land.woodOf(1), 7);
    }

    private static void step4WithNoneToUseItIsDark() {
        Document.says(TERMS, "if it has none to use, it is dark");
        HillBeacons land = Lands.of(3, 1, 0, 1);
        land.setDamp(2, 1);
        land.bringWood(1, 1);
        for (int i = 0; i < 3; i++) {
            land.light(i);
        }
        land.passMinutes(1);
        Expect.same("wood of 0, which burns", land.woodOf(0), 0);
        Expect.same("wood of 1, which burns", land.woodOf(1), 1);
        Expect.same("wood of 2, which kindles", land.woodOf(2), 0);
        Expect.same("fires", Lands.fires(land), "bbk");
        land.passMinutes(1);
        Expect.same("with none to use, with one, and as it begins", Lands.fires(land), "dbb");
        land.bringWood(2, 1);
        land.passMinutes(1);
        Expect.same("with none to use, and with one", Lands.fires(land), "ddb");
        land.passMinutes(1);
        Expect.same("all out", Lands.fires(land), "ddd");
        Expect.refused("the source of one that went out", Expect.BAD_STATE, land,
                () -> land.sourceOf(0));
    }

    private static void step5GlowUntil0() {
        Document.says(TERMS, "A glow of the sky lasts a minute less, if there is one.");
        HillBeacons land = new HillBeacons();
        land.passMinutes(1);
        Expect.same("no glow", land.glowLeft(), 0);
        land.glow(2);
        land.passMinutes(1);
        Expect.same("a glow of 2", land.glowLeft(), 1);
        land.passMinutes(1);
        Expect.same("a glow of 1", land.glowLeft(), 0);
        land.passMinutes(1);
        Expect.same("a glow of 0", land.glowLeft(), 0);
    }

    private static void step5MinuteIsOneGreater() {
        Document.says(TERMS, "The minute is 1 greater.");
        for (int hills = 0; hills <= 10; hills += 10) {
            HillBeacons land = Lands.of(hills, 5, 0, 1);
            land.passMinutes(1);
            Expect.same("minute of " + hills + " hills", land.minute(), 1);
            land.passMinutes(100);
            Expect.same("minute of " + hills + " hills then", land.minute(), 101);
        }
    }

    // RefusalTest does this and the next at length, for each call and in more lands.
    private static void throwingChangesNothing() {
        Document.says(TERMS, "A method that throws an exception changes nothing.");
        HillBeacons land = Lands.inFlames(10);
        Expect.refused("addHill", Expect.BAD_STATE, land, () -> land.addHill(5, 0, 1));
        Expect.refused("setSight", Expect.BAD_NUMBER, land, () -> land.setSight(0, 1, 21));
        Expect.refused("bringWood", Expect.BAD_NUMBER, land, () -> land.bringWood(0, 31));
        Expect.refused("light", Expect.BAD_STATE, land, () -> land.light(1));
        Expect.refused("douse", Expect.BAD_STATE, land, () -> land.douse(2));
        Expect.refused("passMinutes", Expect.BAD_NUMBER, land, () -> land.passMinutes(101));
        Expect.refused("reachOf", Expect.BAD_STATE, land, () -> land.reachOf(0));
        Expect.sameFromNowOn("a land that refused", land, Lands.inFlames(10));
    }

    private static void firstNamedIsThrown() {
        Document.says(TERMS, "If several exceptions apply, the one that is named first is thrown.");
        HillBeacons land = Lands.inFlames(10);
        Expect.refused("addHill, full", Expect.BAD_NUMBER, land, () -> land.addHill(31, 0, 1));
        Expect.refused("setSight, the same", Expect.NO_SUCH_HILL, land,
                () -> land.setSight(10, 10, 5));
        Expect.refused("setSight, 21 miles", Expect.NO_SUCH_HILL, land,
                () -> land.setSight(0, 10, 21));
        Expect.refused("bringWood", Expect.NO_SUCH_HILL, land, () -> land.bringWood(10, 0));
        Expect.refused("setDamp", Expect.NO_SUCH_HILL, land, () -> land.setDamp(10, 10));
    }
}
