/** The empty strip, the strip that has 12, and the 512th call. */
public final class EmptyAndFullTest {
    private static final int LIMIT = 12;

    public static void main(String[] args) {
        emptyFrom("new", new HarbourBoard());
        emptyFrom("cleared", clearedFromFull());
        oneOfTheTwoStripsIsEmpty();
        theTwelfthComesAndNoThirteenth();
        eachStripHasItsOwnRoom();
        aClearedStripHasRoomForTwelve();
        theLatestOfTwelve();
        runsOfTwelve();
        countsOfTwelve();
        extremesOfTwelve();
        sameOfTwelve();
        theLastCallOfAnObject();
        Due.finish();
    }

    /** Every strip has 12 numbers: levels 31 .. 42, winds 61 .. 72. */
    private static HarbourBoard full() {
        HarbourBoard b = new HarbourBoard();
        for (int g = 0; g < 6; g++) {
            for (int i = 1; i <= LIMIT; i++) {
                b.level(g, 30 + i);
                b.wind(g, 60 + i);
            }
        }
        return b;
    }

    private static HarbourBoard clearedFromFull() {
        HarbourBoard b = full();
        for (int g = 0; g < 6; g++) {
            b.clear(g);
        }
        return b;
    }

    /** What is promised of a board whose strips are all empty, be it new or cleared. */
    private static void emptyFrom(String name, HarbourBoard b) {
        emptyStripsHaveNothing(name, b);
        emptyLatestIsOut(name, b);
        emptyAgainstTheProbes(name, b);
        emptyStand(name, b);
        emptyBesideNumbers(name, b);
    }

    private static void emptyStripsHaveNothing(String name, HarbourBoard b) {
        for (int i = 0; i < 6; i++) {
            int g = i;
            Due.is(name + ": 22 size of levels", () -> b.size(g, 0), 0);
            Due.is(name + ": 22 size of winds", () -> b.size(g, 1), 0);
            Due.is(name + ": 5 nothing to clear", () -> b.clear(g), 0);
            Due.is(name + ": 18 no number among the levels", () -> b.highest(g), Due.NO_ELEMENT);
            Due.is(name + ": 19 no number among the winds", () -> b.calmest(g), Due.NO_ELEMENT);
            Due.is(name + ": 20 an empty strip and itself", () -> b.same(g, g), 2);
            Due.is(name + ": 20 two empty strips", () -> b.same(g, 5 - g), 2);
            Due.is(name + ": 17 all OUT: the lower gauge first", () -> b.order(g), g);
        }
    }

    private static void emptyLatestIsOut(String name, HarbourBoard b) {
        for (int what = 0; what < 2; what++) {
            for (int relation = 0; relation < 6; relation++) {
                int w = what;
                int r = relation;
                boolean unlike = r == 5;
                Due.is(name + ": 14 two empty strips, by " + r, () -> b.holds(2, 4, w, r), unlike);
                Due.is(name + ": 14 an empty strip and itself, by " + r, () -> b.holds(3, 3, w, r), unlike);
                Due.is(name + ": 15 two empty strips, by " + r, () -> b.pick(4, 2, w, r), unlike ? 4 : -1);
            }
        }
        Due.is(name + ": 21 both levels are OUT", () -> b.move(true), Due.UNSUPPORTED);
    }

    private static void emptyAgainstTheProbes(String name, HarbourBoard b) {
        noRunAndNoCount(name + ", the probes OUT", b);
        Due.is(name + ": 9 no level is equal to 0", () -> b.probe(0), 0);
        Due.is(name + ": 10 no wind is equal to 0", () -> b.probeWind(0), 0);
        noRunAndNoCount(name + ", the probes 0", b);
        Due.is(name + ": 9 no level is equal to what was there", () -> b.probe(42), 0);
        Due.is(name + ": 10 no wind is equal to what was there", () -> b.probeWind(72), 0);
        noRunAndNoCount(name + ", the probes at what was there", b);
        Due.is(name + ": 11 all levels are unlike OUT", () -> b.probeOut(0), 6);
        Due.is(name + ": 11 all winds are unlike OUT", () -> b.probeOut(1), 6);
    }

    private static void noRunAndNoCount(String name, HarbourBoard b) {
        for (int what = 0; what < 2; what++) {
            for (int relation = 0; relation < 6; relation++) {
                int w = what;
                int r = relation;
                Due.is(name + ": 12 run by " + r, () -> b.run(1, w, r, false), 0);
                Due.is(name + ": 12 run back by " + r, () -> b.run(1, w, r, true), 0);
                Due.is(name + ": 13 count by " + r, () -> b.count(1, w, r, false), 0);
                Due.is(name + ": 13 count, not, by " + r, () -> b.count(1, w, r, true), 0);
            }
        }
    }

    private static void emptyStand(String name, HarbourBoard b) {
        Due.is(name + ": 16 empty", () -> b.stand(2), 0);
        b.mark(2, 0, 1000);
        Due.is(name + ": 16 empty, LOW is SET", () -> b.stand(2), 0);
        b.mark(2, 1, -1000);
        Due.is(name + ": 16 empty, both marks are SET", () -> b.stand(2), 0);
        b.mark(2, 0, 0);
        b.mark(2, 1, 0);
        Due.is(name + ": 16 empty is not equal to 0", () -> b.stand(2), 0);
        b.gale(2, 0);
        Due.is(name + ": 16 GALE is 0, and no wind has come", () -> b.stand(2), 30);
        b.gale(2, 200);
        Due.is(name + ": 16 GALE is 200, and no wind has come", () -> b.stand(2), 30);
        b.lift(2, 2);
        Due.is(name + ": 16 GALE is lifted", () -> b.stand(2), 0);
    }

    private static void emptyBesideNumbers(String name, HarbourBoard b) {
        b.level(5, -1000);
        Due.is(name + ": 17 the least level is ahead of empty strips", () -> b.order(0), 5);
        Due.is(name + ": 17 empty strips are behind it", () -> b.order(5), 4);
        b.out(0, 0);
        Due.is(name + ": 17 OUT and empty: the lower gauge first", () -> b.order(1), 0);
        Due.is(name + ": 17 empty and OUT: the lower gauge first", () -> b.order(2), 1);
        Due.is(name + ": 20 one OUT and none", () -> b.same(0, 1), 0);
        Due.is(name + ": 20 none and one OUT", () -> b.same(1, 0), 0);
        Due.is(name + ": 20 one number and none", () -> b.same(5, 1), 0);
        for (int relation = 0; relation < 6; relation++) {
            int r = relation;
            boolean unlike = r == 5;
            Due.is(name + ": 14 a number to an empty strip, by " + r, () -> b.holds(5, 1, 0, r), unlike);
            Due.is(name + ": 14 an empty strip to a number, by " + r, () -> b.holds(1, 5, 0, r), unlike);
            Due.is(name + ": 14 OUT to an empty strip, by " + r, () -> b.holds(0, 1, 0, r), unlike);
            Due.is(name + ": 15 a number and an empty strip, by " + r, () -> b.pick(5, 1, 0, r), unlike ? 5 : -1);
            Due.is(name + ": 15 an empty strip and a number, by " + r, () -> b.pick(1, 5, 0, r), unlike ? 1 : -1);
        }
        b.level(0, 1000);
        Due.is(name + ": 21 INSIDE is above, but OUTSIDE is empty", () -> b.move(true), Due.UNSUPPORTED);
        b.clear(0);
        b.level(1, -1000);
        Due.is(name + ": 21 INSIDE is empty", () -> b.move(true), Due.UNSUPPORTED);
    }

    private static void oneOfTheTwoStripsIsEmpty() {
        HarbourBoard b = new HarbourBoard();
        b.wind(0, 5);
        b.level(1, 5);
        Due.is("16 winds alone: the levels are empty", () -> b.stand(0), 0);
        Due.is("18 winds alone: no level", () -> b.highest(0), Due.NO_ELEMENT);
        Due.is("19 levels alone: no wind", () -> b.calmest(1), Due.NO_ELEMENT);
        Due.is("5 winds alone", () -> b.clear(0), 1);
        Due.is("5 levels alone", () -> b.clear(1), 1);
    }

    private static int come(HarbourBoard b, int g, int what, boolean out) {
        if (out) {
            return b.out(g, what);
        }
        return what == 0 ? b.level(g, 5) : b.wind(g, 5);
    }

    /** Whatever the 12 are, numbers or OUT, and whatever would be the thirteenth. */
    private static void theTwelfthComesAndNoThirteenth() {
        for (int i = 0; i < 6 * 2 * 4; i++) {
            int g = i / 8;
            int what = i / 4 % 2;
            boolean elevenAreOut = i / 2 % 2 == 1;
            boolean lastIsOut = i % 2 == 1;
            String name = " of gauge " + g + ", what " + what + ", OUT " + elevenAreOut + ", last OUT " + lastIsOut;
            HarbourBoard b = new HarbourBoard();
            for (int n = 1; n < LIMIT; n++) {
                Due.is("2-4 one more" + name, () -> come(b, g, what, elevenAreOut), n);
            }
            Due.is("22 size, 11" + name, () -> b.size(g, what), 11);
            Due.is("2-4 the twelfth" + name, () -> come(b, g, what, lastIsOut), 12);
            Due.is("22 size, 12" + name, () -> b.size(g, what), 12);
            Due.is("2-4 no thirteenth number" + name, () -> come(b, g, what, false), Due.STATE);
            Due.is("2-4 no thirteenth OUT" + name, () -> come(b, g, what, true), Due.STATE);
            Due.is("2-4 never again" + name, () -> come(b, g, what, false), Due.STATE);
            Due.is("22 size, 12 still" + name, () -> b.size(g, what), 12);
            Due.is("5 twelve to clear" + name, () -> b.clear(g), 12);
        }
    }

    private static void eachStripHasItsOwnRoom() {
        HarbourBoard b = new HarbourBoard();
        for (int g = 0; g < 6; g++) {
            for (int what = 0; what < 2; what++) {
                int gauge = g;
                int w = what;
                for (int n = 1; n <= LIMIT; n++) {
                    Due.is("2-4 whatever the others have", () -> come(b, gauge, w, false), n);
                }
                Due.is("2-4 this one is full", () -> come(b, gauge, w, false), Due.STATE);
            }
        }
        for (int i = 0; i < 6; i++) {
            int g = i;
            Due.is("5 two full strips", () -> b.clear(g), 24);
        }
    }

    private static void aClearedStripHasRoomForTwelve() {
        HarbourBoard b = full();
        Due.is("5 clear", () -> b.clear(3), 24);
        for (int n = 1; n <= LIMIT; n++) {
            Due.is("5 levels anew", () -> come(b, 3, 0, false), n);
            Due.is("5 winds anew", () -> come(b, 3, 1, true), n);
        }
        Due.is("5 levels full again", () -> come(b, 3, 0, true), Due.STATE);
        Due.is("5 winds full again", () -> come(b, 3, 1, false), Due.STATE);
        Due.is("5 the others are full still", () -> come(b, 2, 0, false), Due.STATE);
        Due.is("5 clear again", () -> b.clear(3), 24);
        b.level(3, 7);
        Due.is("5 nothing of the old ones is left: highest", () -> b.highest(3), 7.0);
        b.wind(3, 99);
        Due.is("5 nothing of the old ones is left: calmest", () -> b.calmest(3), 99f);
    }

    private static void theLatestOfTwelve() {
        HarbourBoard b = full();
        Due.is("9 the latest level is the twelfth", () -> b.probe(42), 6);
        Due.is("9 not the eleventh", () -> b.probe(41), 0);
        Due.is("10 the latest wind is the twelfth", () -> b.probeWind(72), 6);
        Due.is("10 not the eleventh", () -> b.probeWind(71), 0);
        Due.is("2 no thirteenth", () -> b.level(1, 50), Due.STATE);
        Due.is("3 no thirteenth", () -> b.wind(1, 80), Due.STATE);
        Due.is("9 the twelfth is the latest still", () -> b.probe(42), 6);
        Due.is("10 the twelfth is the latest still", () -> b.probeWind(72), 6);
        Due.is("9 and not what was refused", () -> b.probe(50), 0);
        Due.is("10 and not what was refused", () -> b.probeWind(80), 0);
        Due.is("4 no thirteenth", () -> b.out(1, 0), Due.STATE);
        Due.is("16 the latest is a number still", () -> b.stand(1), 5);
    }

    private static void runsOfTwelve() {
        HarbourBoard b = full();
        b.probe(42);
        Due.is("12 all of twelve", () -> b.run(0, 0, 1, false), 12);
        Due.is("12 all but the latest", () -> b.run(0, 0, 0, false), 11);
        Due.is("12 all of twelve, back", () -> b.run(0, 0, 2, true), 12);
        Due.is("12 the latest holds it: none, back", () -> b.run(0, 0, 4, true), 0);
        b.probe(31);
        Due.is("12 the oldest alone", () -> b.run(0, 0, 4, false), 1);
        Due.is("12 the oldest does not hold it: none", () -> b.run(0, 0, 2, false), 0);
        Due.is("12 all but the oldest, back", () -> b.run(0, 0, 4, true), 11);
        b.probeWind(72);
        Due.is("12 winds: all of twelve", () -> b.run(0, 1, 1, false), 12);
        Due.is("12 winds: all but the latest", () -> b.run(0, 1, 0, false), 11);
        Due.is("12 winds: all of twelve, back", () -> b.run(0, 1, 2, true), 12);
        b.probeWind(61);
        Due.is("12 winds: all but the oldest, back", () -> b.run(0, 1, 4, true), 11);
        b.probeOut(0);
        Due.is("12 the probe is OUT: all are unlike", () -> b.run(0, 0, 5, false), 12);
        Due.is("12 the probe is OUT: none is equal, back", () -> b.run(0, 0, 4, true), 12);
    }

    private static void countsOfTwelve() {
        HarbourBoard b = full();
        b.probe(42);
        b.probeWind(61);
        Due.is("13 all of twelve", () -> b.count(5, 0, 1, false), 12);
        Due.is("13 none of twelve", () -> b.count(5, 0, 1, true), 0);
        Due.is("13 the latest alone", () -> b.count(5, 0, 4, false), 1);
        Due.is("13 all but the latest", () -> b.count(5, 0, 4, true), 11);
        Due.is("13 winds: all of twelve", () -> b.count(5, 1, 3, false), 12);
        Due.is("13 winds: the oldest alone", () -> b.count(5, 1, 2, true), 1);
        b.probeOut(0);
        b.probeOut(1);
        Due.is("13 the probe is OUT: all are unlike", () -> b.count(5, 0, 5, false), 12);
        Due.is("13 the probe is OUT: none is at most", () -> b.count(5, 0, 1, false), 0);
        Due.is("13 winds, the probe is OUT: all are not at least", () -> b.count(5, 1, 3, true), 12);
    }

    /** Twelve of which the one at this place is 9, all others 8, or OUT. */
    private static HarbourBoard oneAmongTwelve(int place, boolean othersOut, int special) {
        HarbourBoard b = new HarbourBoard();
        for (int i = 0; i < LIMIT; i++) {
            if (i == place) {
                b.level(4, special);
                b.wind(4, special);
            } else {
                come8(b, othersOut);
            }
        }
        return b;
    }

    private static void come8(HarbourBoard b, boolean out) {
        if (out) {
            b.out(4, 0);
            b.out(4, 1);
        } else {
            b.level(4, 8);
            b.wind(4, 8);
        }
    }

    private static void extremesOfTwelve() {
        for (int i = 0; i < LIMIT; i++) {
            int place = i;
            Due.is("18 the greatest at place " + i, () -> oneAmongTwelve(place, false, 9).highest(4), 9.0);
            Due.is("18 a lesser one at place " + i, () -> oneAmongTwelve(place, false, 7).highest(4), 8.0);
            Due.is("18 the only number at place " + i, () -> oneAmongTwelve(place, true, 0).highest(4), 0.0);
            Due.is("19 the least at place " + i, () -> oneAmongTwelve(place, false, 7).calmest(4), 7f);
            Due.is("19 a greater one at place " + i, () -> oneAmongTwelve(place, false, 9).calmest(4), 8f);
            Due.is("19 the only number at place " + i, () -> oneAmongTwelve(place, true, 200).calmest(4), 200f);
        }
        HarbourBoard b = oneAmongTwelve(-1, true, 0);
        Due.is("18 twelve that are OUT", () -> b.highest(4), Due.NO_ELEMENT);
        Due.is("19 twelve that are OUT", () -> b.calmest(4), Due.NO_ELEMENT);
    }

    /** Gauges 0 and 1 have twelve levels, alike but at this place. */
    private static HarbourBoard alikeBut(int place, Double ofG, Double ofH) {
        HarbourBoard b = new HarbourBoard();
        for (int i = 0; i < LIMIT; i++) {
            levelOrOut(b, 0, i == place ? ofG : Double.valueOf(i));
            levelOrOut(b, 1, i == place ? ofH : Double.valueOf(i));
        }
        return b;
    }

    private static void levelOrOut(HarbourBoard b, int g, Double v) {
        if (v == null) {
            b.out(g, 0);
        } else {
            b.level(g, v);
        }
    }

    private static void sameOfTwelve() {
        for (int i = 0; i < LIMIT; i++) {
            int place = i;
            Due.is("20 equal", () -> alikeBut(place, 50.0, 50.0).same(0, 1), 2);
            Due.is("20 both OUT at place " + i, () -> alikeBut(place, null, null).same(0, 1), 1);
            Due.is("20 others at place " + i, () -> alikeBut(place, 50.0, 51.0).same(0, 1), 0);
            Due.is("20 one OUT at place " + i, () -> alikeBut(place, null, 50.0).same(0, 1), 0);
            Due.is("20 the other OUT at place " + i, () -> alikeBut(place, 50.0, null).same(0, 1), 0);
            Due.is("20 one and itself, OUT at place " + i, () -> alikeBut(place, null, 50.0).same(0, 0), 1);
        }
        HarbourBoard b = full();
        b.clear(1);
        for (int n = 1; n < LIMIT; n++) {
            b.level(1, 30 + n);
        }
        Due.is("20 twelve and the first eleven of them", () -> b.same(0, 1), 0);
        Due.is("20 eleven and twelve", () -> b.same(1, 0), 0);
        b.level(1, 42);
        Due.is("20 twelve and twelve", () -> b.same(1, 0), 2);
    }

    private static void theLastCallOfAnObject() {
        HarbourBoard gate = new HarbourBoard();
        gate.level(0, 2);
        gate.level(1, 1);
        for (int n = 1; n <= 510; n++) {
            boolean open = n % 2 == 1;
            Due.is("21 move " + n + " of one object", () -> gate.move(open), n);
        }
        HarbourBoard strip = new HarbourBoard();
        for (int call = 1; call <= 512; call++) {
            // 39 times 13 calls and 5 more: the strip is filled and cleared all the while.
            int n = (call - 1) % 13 + 1;
            Due.is("2 and 5, call " + call + " of one object", () -> n == 13 ? strip.clear(0) : strip.level(0, 1), n == 13 ? 12 : n);
        }
    }
}
