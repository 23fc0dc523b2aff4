import java.util.function.Consumer;

/**
 * What a call that is not refused leaves as it was: asking changes nothing; a call that changes something changes
 * that alone, so that when it is undone, by calls again, all is as in a twin that it was never asked of.
 */
public final class ChangesTest extends Bench {
    private ChangesTest() {
        super("ChangesTest");
    }

    public static void main(String[] args) {
        ChangesTest t = new ChangesTest();
        t.askingChangesNothing();
        t.findingAgainChangesNothing();
        t.findingChangesItsOwnAlone();
        t.useChangesOneCoil();
        t.clearLeavesTheRest();
        t.motorLeavesTheRest();
        t.makeLeavesTheRest();
        t.coilsFromASheetAreAsCoilsByHand();
        t.itemChangesOneItem();
        t.sheetAndDropChangeOneSheet();
        t.latestAnswersOutliveTheirCoils();
        t.objectsAreApart();
        t.c.end();
    }

    /** The same as twin, but for calls in between. */
    private void same(String name, Consumer<SlotTurns> calls) {
        SlotTurns x = some();
        calls.accept(x);
        c.holds(name + ": all is as it was", lookAt(x).equals(lookAt(some())));
    }

    private static SlotTurns some() {
        SlotTurns x = motor(12, 1, 3);
        layCoils(x);
        x.ways(1, 2);
        x.tour(0);
        x.shorts(1, 3);
        for (int sheet = 0; sheet < 3; sheet++) {
            fill(x, sheet, sheet, 0, 10, 7, 11 + sheet, 1, 11, 10, 99);
        }
        return x;
    }

    private static void layCoils(SlotTurns x) {
        lay(x, 0, 0, 6, 1, 6, 0, 2);
        lay(x, 1, 2, 8, 3, 2, 8, 3);
        lay(x, 2, 4, 5, 1, 5, 4, 1);
        x.use(5, false);
    }

    // ---- asking

    private void askingChangesNothing() {
        same("told", x -> asked(x.told(0, 0), x.told(5, 1), x.told(5, 2), x.told(5, 3), x.told(5, 4)));
        same("sides", x -> asked(x.sides(0), x.sides(11)));
        same("count", x -> asked(x.count(0), x.count(1), x.count(5), x.count(6), x.count(7)));
        same("cyclotomic", x -> asked(x.cyclotomic(0), x.cyclotomic(4)));
        same("wave", x -> asked(x.wave(0, 1, 0), x.wave(2, 47, 3)));
        same("isStill", x -> asked(x.isStill(0, 1), x.isStill(2, 47)));
        same("balanced", x -> asked(x.balanced(1), x.balanced(12)));
        same("wayOf", x -> asked(x.wayOf(0), x.wayOf(3)));
        same("copper", x -> asked(x.copper(), x.copper()));
        same("tourAt", x -> asked(x.tourAt(-1), x.tourAt(0)));
        same("picked", x -> asked(x.picked(0), x.picked(0)));
        same("coils of none", x -> asked(x.coils(0, 0, 0, 0), x.coils(2, 2, 8, 0)));
    }

    private void asked(int... answers) {
        for (int answer : answers) {
            c.holds("it is told, " + answer, answer != BAD);
        }
    }

    private void findingAgainChangesNothing() {
        same("ways again", x -> c.due("ways", x.ways(1, 2), 1));
        same("tour again", x -> c.due("tour", x.tour(0), 0));
        same("shorts again", x -> c.due("shorts", x.shorts(1, 3), 1));
        same("a mend between", x -> {
            c.due("mend", x.mend(), NONE);
            c.due("shorts", x.shorts(1, 3), 1);
        });
        same("others between", x -> {
            c.due("ways", x.ways(0, 1), 1);
            c.due("ways", x.ways(1, 2), 1);
            c.due("tour", x.tour(2), 1);
            c.due("tour", x.tour(0), 0);
            c.due("shorts", x.shorts(0, 0), 2);
            c.due("shorts", x.shorts(1, 3), 1);
        });
    }

    private void findingChangesItsOwnAlone() {
        SlotTurns x = some();
        c.due("ways of another phase", x.ways(0, 1), 1);
        waysAre(x, 0, 0, NONE, NONE, NONE, NONE);
        tourIs(x, 0, 1);
        pickedAre(x, 2);
        c.due("tour of another phase", x.tour(2), 1);
        waysAre(x, 0, 0, NONE, NONE, NONE, NONE);
        tourIs(x, 4);
        pickedAre(x, 2);
        c.due("shorts of another phase", x.shorts(0, 0), 2);
        waysAre(x, 0, 0, NONE, NONE, NONE, NONE);
        tourIs(x, 4);
        pickedAre(x, 0, 1);
        cutOut(x, 2, 5);
        c.due("no mend", x.mend(), NONE);
        pickedAre(x, 0, 1);
        x.motor(12, 1, 1);
        lay(x, 0, 0, 1, 1, 1, 0, 1);
        c.due("a mend", x.mend(), 1);
        pickedAre(x, 0);
        waysAre(x, 0, 0);
        tourIs(x, 4);
        c.due("all are in use", x.count(1), 2);
    }

    // ---- what is undone

    private void useChangesOneCoil() {
        for (int coil = 0; coil < 6; coil++) {
            int of = coil;
            boolean was = coil < 5;
            same("use as it is", x -> c.due("use", x.use(of, was), was ? 1 : 0));
            same("use the other way and back", x -> {
                c.due("use", x.use(of, !was), was ? 1 : 0);
                c.due("the number in use", x.count(1), was ? 4 : 6);
                c.due("the number of coils", x.count(0), 6);
                c.due("use", x.use(of, was), was ? 0 : 1);
            });
        }
    }

    private void clearLeavesTheRest() {
        same("clear", x -> {
            c.due("clear", x.clear(), 6);
            sidesAre(x, 0, 0, 0, 0, 0, 0, 0, 0, 0, 0, 0, 0);
            c.due("none in use", x.count(1), 0);
            c.due("clear again", x.clear(), 0);
            layCoils(x);
        });
    }

    private void motorLeavesTheRest() {
        same("motor of the same numbers", x -> {
            c.due("motor", x.motor(12, 1, 3), 1);
            c.due("no coils", x.count(0), 0);
            layCoils(x);
        });
        same("motor of other numbers", x -> {
            c.due("motor", x.motor(24, 6, 1), 1);
            c.due("no coils", x.count(0), 0);
            c.due("no sides", x.sides(23), 0);
            c.due("made", x.make(23), 24);
            c.due("motor", x.motor(12, 1, 3), 1);
            layCoils(x);
        });
    }

    private void makeLeavesTheRest() {
        same("make", x -> {
            c.due("make", x.make(11), 12);
            sidesAre(x, 2, 2, 2, 2, 2, 2, 2, 2, 2, 2, 2, 2);
            c.due("all in use", x.count(1), 12);
            c.due("make again", x.make(1), 12);
            c.due("clear", x.clear(), 12);
            layCoils(x);
        });
    }

    private void coilsFromASheetAreAsCoilsByHand() {
        for (int lane = 0; lane < 3; lane++) {
            SlotTurns x = some();
            SlotTurns y = some();
            c.due("from a sheet", x.coils(lane, lane, 0, 2), 8);
            c.due("by hand", y.coil(0, 10, 7, 11 + lane), 6);
            c.due("by hand", y.coil(1, 11, 10, 99), 7);
            c.holds("they are the same", lookAt(x).equals(lookAt(y)));
            x = some();
            y = some();
            c.due("the second from a sheet", x.coils(lane, lane, 4, 1), 7);
            c.due("by hand", y.coil(1, 11, 10, 99), 6);
            c.holds("it is the same", lookAt(x).equals(lookAt(y)));
        }
    }

    private void itemChangesOneItem() {
        int[] numbers = {0, 10, 7, 11, 1, 11, 10, 99};
        for (int lane = 0; lane < 3; lane++) {
            for (int i = 0; i < 8; i++) {
                int of = lane;
                int at = i;
                int was = i == 3 ? 11 + lane : numbers[i];
                same("item " + i + " as it is", x -> c.due("item", x.item(of, of, at, was), 1));
                same("item " + i + " another and back", x -> {
                    c.due("item", x.item(of, of, at, -1), 1);
                    c.due("a coil not as told", x.coils(of, of, at / 4 * 4, 1), NOT);
                    c.due("item", x.item(of, of, at, was), 1);
                });
            }
        }
    }

    private void sheetAndDropChangeOneSheet() {
        int[] numbers = {0, 10, 7, 11, 1, 11, 10, 99};
        for (int sheet = 0; sheet < 3; sheet++) {
            int of = sheet;
            numbers[3] = 11 + sheet;
            same("the same row again", x -> fill(x, of, of, numbers));
            same("a row of another lane between", x -> {
                c.due("sheet", x.sheet(of, (of + 1) % 3, 96), 96);
                c.due("sheet", x.sheet(of, (of + 2) % 3, 0), 0);
                fill(x, of, of, numbers);
            });
            same("dropped between", x -> {
                c.due("drop", x.drop(of), 8);
                c.due("drop again", x.drop(of), NULL);
                fill(x, of, of, numbers);
            });
        }
        same("the fourth sheet", x -> {
            c.due("sheet", x.sheet(3, 2, 96), 96);
            c.due("item", x.item(3, 2, 0, 7), 1);
            c.due("drop", x.drop(3), 96);
        });
        same("a sheet of nothing dropped", x -> {
            c.due("sheet", x.sheet(3, 0, 0), 0);
            c.due("drop", x.drop(3), 0);
        });
    }

    // ---- answers that stay

    private void latestAnswersOutliveTheirCoils() {
        SlotTurns x = some();
        x.clear();
        waysAre(x, BAD, BAD, BAD, BAD, BAD, BAD);
        tourIs(x, 0, 1);
        pickedAre(x, 2);
        x.motor(24, 1, 1);
        tourIs(x, 0, 1);
        pickedAre(x, 2);
        x.make(1);
        waysAre(x, NONE, NONE, 0, 1, NONE, NONE, NONE);
        c.due("wayOf(23)", x.wayOf(23), NONE);
        tourIs(x, 0, 1);
        pickedAre(x, 2);
        x.use(2, false);
        waysAre(x, NONE, NONE, 0, 1);
        pickedAre(x, 2);
        x.use(0, false);
        tourIs(x, 0, 1);
        c.due("refused: FULL", x.ways(0, 1), FULL);
        c.due("refused: FULL", x.tour(0), FULL);
        c.due("refused: NONE", x.shorts(0, 9999), NONE);
        waysAre(x, NONE, NONE, 0, 1, NONE);
        tourIs(x, 0, 1);
        pickedAre(x, 2);
    }

    private void objectsAreApart() {
        SlotTurns x = some();
        SlotTurns y = some();
        x.motor(24, 6, 2);
        x.make(7);
        cutOut(x, 2, 23);
        x.ways(0, 1);
        x.tour(0);
        x.shorts(0, 0);
        for (int sheet = 0; sheet < 4; sheet++) {
            fill(x, sheet, 1, 5, 5, 5, 5);
        }
        c.holds("what one object is asked changes no other", lookAt(y).equals(lookAt(some())));
        c.due("nor does a new one", new SlotTurns().count(2), 12);
        c.due("and it stays as it was", x.count(2), 24);
    }
}
