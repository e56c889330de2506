/** Lands that several tests begin with, and what can be told of a land in one line. */
final class Lands {
    private Lands() {
    }

    static HillBeacons of(int hills, int wood, int damp, int watch) {
        HillBeacons land = new HillBeacons();
        for (int i = 0; i < hills; i++) {
            land.addHill(wood, damp, watch);
        }
        return land;
    }

    /** Each hill has a sight of 5 miles to the next. */
    static HillBeacons lineOf(int hills, int wood, int damp, int watch) {
        HillBeacons land = of(hills, wood, damp, watch);
        for (int i = 1; i < hills; i++) {
            land.setSight(i - 1, i, 5);
        }
        return land;
    }

    /** Hill 0 burns with its wood left; every other hill sees it over 5 miles. */
    static HillBeacons roundAFire(int hills, int wood, int damp, int watch) {
        HillBeacons land = of(hills, wood, damp, watch);
        land.setDamp(0, 0);
        land.bringWood(0, 30);
        land.light(0);
        land.passMinutes(1);
        for (int i = 1; i < hills; i++) {
            land.setSight(0, i, 5);
        }
        return land;
    }

    /**
     * Nine or ten hills in minute 4, with each kind of fire: 0 burns, lit by hand and answered once;
     * 1 is kindling by its signal, 2 is looking at it, 4 would but has no wood, and 5 burns by it; 3
     * burns by mistake; 6 is kindling and 8 burns its last, both lit by hand; 7 was doused.
     */
    static HillBeacons inFlames(int hills) {
        int[][] made = {{20, 0, 1}, {20, 3, 2}, {20, 0, 5}, {20, 0, 1}, {0, 0, 1}, {20, 0, 1},
            {20, 9, 1}, {20, 0, 1}, {1, 0, 1}, {20, 2, 3}};
        HillBeacons land = new HillBeacons();
        for (int i = 0; i < hills; i++) {
            land.addHill(made[i][0], made[i][1], made[i][2]);
        }
        land.setHaze(1);
        land.setSight(0, 1, 5);
        land.setSight(0, 2, 6);
        land.setSight(0, 4, 8);
        land.setSight(0, 5, 7);
        land.setSight(7, 8, 19);
        land.turnEast(3);
        land.turnPost(5);
        land.light(0);
        land.light(7);
        land.passMinutes(1);
        land.douse(7);
        land.light(6);
        land.glow(5);
        land.passMinutes(2);
        land.light(8);
        land.passMinutes(1);
        return land;
    }

    /** A sign for each hill: d if dark, k if kindling, b if burning. */
    static String fires(HillBeacons land) {
        StringBuilder signs = new StringBuilder();
        for (int i = 0; i < land.hills(); i++) {
            boolean dark = land.isDark(i);
            boolean burning = land.isBurning(i);
            signs.append(dark && burning ? '?' : dark ? 'd' : burning ? 'b' : 'k');
        }
        return signs.toString();
    }

    /** For how many minutes each keeper has been looking. */
    static String looking(HillBeacons land) {
        StringBuilder minutes = new StringBuilder();
        for (int i = 0; i < land.hills(); i++) {
            minutes.append(land.lookingFor(i));
        }
        return minutes.toString();
    }
}
