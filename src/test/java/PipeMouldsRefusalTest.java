import java.util.ArrayList;
import java.util.List;
import java.util.function.Function;
import java.util.function.LongSupplier;

/**
 * For each sentence of the document that tells when a call is refused a test of its own: the nearest call
 * that is refused and the nearest one that is not, at each bound that the sentence names.
 */
public final class PipeMouldsRefusalTest extends Checks {
    public static void main(String[] args) {
        runAll(
                PipeMouldsRefusalTest::mouldArgument,
                PipeMouldsRefusalTest::mouldState,
                PipeMouldsRefusalTest::refitIndex,
                PipeMouldsRefusalTest::refitState,
                PipeMouldsRefusalTest::makerArgument,
                PipeMouldsRefusalTest::makerState,
                PipeMouldsRefusalTest::placeIndex,
                PipeMouldsRefusalTest::placeState,
                PipeMouldsRefusalTest::buyIndex,
                PipeMouldsRefusalTest::buyArgument,
                PipeMouldsRefusalTest::buyState,
                PipeMouldsRefusalTest::setDryIndex,
                PipeMouldsRefusalTest::setDryArgument,
                PipeMouldsRefusalTest::packIndex,
                PipeMouldsRefusalTest::packArgument,
                PipeMouldsRefusalTest::packState,
                PipeMouldsRefusalTest::fireArgument,
                PipeMouldsRefusalTest::fireState,
                PipeMouldsRefusalTest::orderArgument,
                PipeMouldsRefusalTest::orderState,
                PipeMouldsRefusalTest::aboutIndex,
                PipeMouldsRefusalTest::toldIndex,
                PipeMouldsRefusalTest::batchIndex,
                PipeMouldsRefusalTest::saggarIndex,
                PipeMouldsRefusalTest::storeIndex,
                PipeMouldsRefusalTest::waitsIndex,
                PipeMouldsRefusalTest::countIndex,
                PipeMouldsRefusalTest::passArgument,
                PipeMouldsRefusalTest::breaksIndex,
                PipeMouldsRefusalTest::breaksArgument,
                PipeMouldsRefusalTest::readyIndex,
                PipeMouldsRefusalTest::foreseeArgument,
                PipeMouldsRefusalTest::foreseeIndex,
                PipeMouldsRefusalTest::firstNamedIsThrown,
                PipeMouldsRefusalTest::nothingIsChangedOnANewObject,
                PipeMouldsRefusalTest::nothingIsChangedOnAFullObject,
                PipeMouldsRefusalTest::nothingIsChangedBetweenOtherCalls);
    }

    // ---- moulds, makers, wares

    private static void mouldArgument() {
        part = "promise 2: IllegalArgumentException if length is not 4 to 24, or stopper is not 0 to 9";
        PipeMoulds x = new PipeMoulds();
        failsOutside(4, 24, "mould, length", ARGUMENT, x, n -> x.mould(n, 5));
        failsOutside(0, 9, "mould, stopper", ARGUMENT, x, n -> x.mould(8, n));
        fails("mould(3, 10)", ARGUMENT, x, () -> x.mould(3, 10));
        due("mould(4, 5)", 0, () -> x.mould(4, 5));
        due("mould(24, 5)", 1, () -> x.mould(24, 5));
        due("mould(8, 0)", 2, () -> x.mould(8, 0));
        due("mould(8, 9)", 3, () -> x.mould(8, 9));
    }

    private static void mouldState() {
        part = "promise 2: IllegalStateException if there are 6";
        PipeMoulds x = new PipeMoulds();
        for (int mould = 0; mould < 6; mould++) {
            int of = mould;
            due("mould with " + of + " there", of, () -> x.mould(8, 9));
        }
        fails("mould with 6 there", STATE, x, () -> x.mould(8, 9));
        due("the last one", 8, () -> x.about(5, 0));
        fails("no 7th one", INDEX, x, () -> x.about(6, 0));
    }

    private static void refitIndex() {
        part = "promise 3: IndexOutOfBoundsException if there is no such mould";
        PipeMoulds x = new PipeMoulds();
        fails("refit(0) without moulds", INDEX, x, () -> x.refit(0));
        x.mould(8, 1);
        x.mould(8, 2);
        failsOutside(0, 1, "refit", INDEX, x, n -> x.refit(n));
        due("refit(0)", 1, () -> x.refit(0));
        due("refit(1)", 2, () -> x.refit(1));
        PipeMoulds all = new PipeMoulds();
        for (int mould = 0; mould < 6; mould++) {
            all.mould(8, mould);
        }
        failsOutside(0, 5, "refit of 6", INDEX, all, n -> all.refit(n));
        due("refit(5)", 5, () -> all.refit(5));
    }

    private static void refitState() {
        part = "promise 3: IllegalStateException if that was tight by 9, or there are fewer than 2 coins";
        PipeMoulds x = new PipeMoulds();
        x.mould(8, 9);
        x.mould(8, 8);
        fails("refit of one that is tight by 9", STATE, x, () -> x.refit(0));
        due("refit of one that is tight by 8", 8, () -> x.refit(1));
        fails("refit again", STATE, x, () -> x.refit(1));
        PipeMoulds two = new PipeMoulds();
        two.mould(8, 0);
        two.buy(1, 28);
        due("refit with 2 coins", 0, () -> two.refit(0));
        due("coins, then", 0, () -> two.count(3));
        PipeMoulds one = new PipeMoulds();
        one.mould(8, 0);
        one.buy(1, 29);
        fails("refit with 1 coin", STATE, one, () -> one.refit(0));
        one.buy(1, 1);
        fails("refit without coins", STATE, one, () -> one.refit(0));
        PipeMoulds both = new PipeMoulds();
        both.mould(8, 9);
        both.buy(1, 29);
        fails("refit of one that is tight by 9, with 1 coin", STATE, both, () -> both.refit(0));
    }

    private static void makerArgument() {
        part = "promise 4: IllegalArgumentException if skill is not 1 to 9";
        PipeMoulds x = new PipeMoulds();
        failsOutside(1, 9, "maker", ARGUMENT, x, n -> x.maker(n));
        due("maker(1)", 0, () -> x.maker(1));
        due("maker(9)", 1, () -> x.maker(9));
    }

    private static void makerState() {
        part = "promise 4: IllegalStateException if there are 5";
        PipeMoulds x = new PipeMoulds();
        for (int maker = 0; maker < 5; maker++) {
            int of = maker;
            due("maker with " + of + " there", of, () -> x.maker(7));
        }
        fails("maker with 5 there", STATE, x, () -> x.maker(7));
        due("the last one", 7, () -> x.told(4, 0));
        fails("no 6th one", INDEX, x, () -> x.told(5, 0));
    }

    private static void placeIndex() {
        part = "promise 5: IndexOutOfBoundsException if there is no such maker, or mould is neither -1 nor a mould";
        PipeMoulds x = new PipeMoulds();
        x.mould(8, 9);
        fails("place(0, 0) without makers", INDEX, x, () -> x.place(0, 0));
        fails("place(0, -1) without makers", INDEX, x, () -> x.place(0, -1));
        x.maker(5);
        x.maker(5);
        x.mould(8, 9);
        failsOutside(0, 1, "place, maker", INDEX, x, n -> x.place(n, 0));
        failsOutside(0, 1, "place, maker, at none", INDEX, x, n -> x.place(n, -1));
        failsOutside(-1, 1, "place, mould", INDEX, x, n -> x.place(0, n));
        due("place(0, 1)", -1, () -> x.place(0, 1));
        due("place(1, 0)", -1, () -> x.place(1, 0));
        due("place(1, -1)", 0, () -> x.place(1, -1));
        due("place(0, -1)", 1, () -> x.place(0, -1));
        PipeMoulds none = new PipeMoulds();
        none.maker(5);
        fails("place(0, 0) without moulds", INDEX, none, () -> none.place(0, 0));
        due("place(0, -1) without moulds", -1, () -> none.place(0, -1));
    }

    private static void placeState() {
        part = "promise 5: IllegalStateException if another one is at this mould";
        PipeMoulds x = new PipeMoulds();
        for (int one = 0; one < 3; one++) {
            x.maker(5);
            x.mould(8, 9);
        }
        x.place(1, 1);
        fails("place(0, 1), a later maker is there", STATE, x, () -> x.place(0, 1));
        fails("place(2, 1), an earlier maker is there", STATE, x, () -> x.place(2, 1));
        due("place(1, 1), it is there itself", 1, () -> x.place(1, 1));
        due("place(0, -1), several may be at none", -1, () -> x.place(0, -1));
        due("place(2, -1), several may be at none", -1, () -> x.place(2, -1));
        due("place(1, 2), it leaves", 1, () -> x.place(1, 2));
        due("place(0, 1), nobody is there then", -1, () -> x.place(0, 1));
        fails("place(0, 2), the maker is there then", STATE, x, () -> x.place(0, 2));
    }

    private static void buyIndex() {
        part = "promise 6: IndexOutOfBoundsException if what is not 0 to 1";
        PipeMoulds x = new PipeMoulds();
        failsOutside(0, 1, "buy, what", INDEX, x, n -> x.buy(n, 1));
        due("buy(0, 1)", 201, () -> x.buy(0, 1));
        due("buy(1, 1)", 21, () -> x.buy(1, 1));
    }

    private static void buyArgument() {
        part = "promise 6: IllegalArgumentException if many is not 1 to 200";
        PipeMoulds x = withCoins(200);
        failsOutside(1, 200, "buy, clay", ARGUMENT, x, n -> x.buy(0, n));
        failsOutside(1, 200, "buy, coals", ARGUMENT, x, n -> x.buy(1, n));
        int clay = x.count(1);
        due("buy(0, 200)", clay + 200, () -> x.buy(0, 200));
        due("buy(0, 1)", clay + 201, () -> x.buy(0, 1));
        PipeMoulds y = withCoins(201);
        int coals = y.count(2);
        due("buy(1, 200)", coals + 200, () -> y.buy(1, 200));
        due("buy(1, 1)", coals + 201, () -> y.buy(1, 1));
    }

    private static void buyState() {
        part = "promise 6: IllegalStateException if there are too few coins";
        PipeMoulds x = new PipeMoulds();
        fails("buy(1, 31) with 30 coins", STATE, x, () -> x.buy(1, 31));
        due("buy(1, 30) with 30 coins", 50, () -> x.buy(1, 30));
        fails("buy(1, 1) without coins", STATE, x, () -> x.buy(1, 1));
        fails("buy(0, 1) without coins", STATE, x, () -> x.buy(0, 1));
        PipeMoulds y = new PipeMoulds();
        fails("buy(0, 121), for 31, with 30 coins", STATE, y, () -> y.buy(0, 121));
        due("buy(0, 120), for 30, with 30 coins", 320, () -> y.buy(0, 120));
        PipeMoulds z = new PipeMoulds();
        z.buy(1, 29);
        fails("buy(0, 5), for 2, with 1 coin", STATE, z, () -> z.buy(0, 5));
        due("buy(0, 4), for 1, with 1 coin", 204, () -> z.buy(0, 4));
        PipeMoulds w = new PipeMoulds();
        due("buy(0, 117), for 30, with 30 coins", 317, () -> w.buy(0, 117));
        due("no coins", 0, () -> w.count(3));
    }

    /** This many coins, 130 to 228, most of them paid for pipes. */
    private static PipeMoulds withCoins(int coins) {
        PipeMoulds x = withWhole(9);
        x.order(8, 1, 0, 99);
        x.order(8, 1, 0, coins - 129);
        x.pass(1);
        return x;
    }

    private static void setDryIndex() {
        part = "promise 7: IndexOutOfBoundsException if day is not 0 to 6";
        PipeMoulds x = new PipeMoulds();
        failsOutside(0, 6, "setDry, day", INDEX, x, n -> x.setDry(n, 2));
        due("setDry(0, 2)", 1, () -> x.setDry(0, 2));
        due("setDry(6, 2)", 1, () -> x.setDry(6, 2));
    }

    private static void setDryArgument() {
        part = "promise 7: IllegalArgumentException if by is not 0 to 3";
        PipeMoulds x = new PipeMoulds();
        failsOutside(0, 3, "setDry, by", ARGUMENT, x, n -> x.setDry(4, n));
        due("setDry(4, 0)", 1, () -> x.setDry(4, 0));
        due("setDry(4, 3)", 0, () -> x.setDry(4, 3));
        due("setDry(4, 1)", 3, () -> x.setDry(4, 1));
    }

    // ---- the kiln, orders

    private static void packIndex() {
        part = "promise 8: IndexOutOfBoundsException if there is no such batch, or saggar is not 0 to 5";
        PipeMoulds x = works(9, 8, 9);
        fails("pack(0, 0, 1) without batches", INDEX, x, () -> x.pack(0, 0, 1));
        x.pass(2);
        failsOutside(0, 1, "pack, batch", INDEX, x, n -> x.pack(n, 0, 1));
        failsOutside(0, 5, "pack, saggar", INDEX, x, n -> x.pack(0, n, 1));
        due("pack(0, 0, 1)", 8, () -> x.pack(0, 0, 1));
        due("pack(1, 5, 1)", 8, () -> x.pack(1, 5, 1));
        x.pass(40);
        failsOutside(0, 9, "pack, batch of 10", INDEX, x, n -> x.pack(n, 1, 1));
        due("pack(9, 1, 1)", 8, () -> x.pack(9, 1, 1));
    }

    private static void packArgument() {
        part = "promise 8: IllegalArgumentException if many is not 1 to 24";
        PipeMoulds x = works(9, 8, 9);
        x.pass(1);
        failsOutside(1, 24, "pack, many", ARGUMENT, x, n -> x.pack(0, 0, n));
        // No batch has 24 pipes, so that 24 is no wrong argument shows in the other exception.
        fails("pack(0, 0, 24)", STATE, x, () -> x.pack(0, 0, 24));
        due("pack(0, 0, 1)", 8, () -> x.pack(0, 0, 1));
    }

    private static void packState() {
        part = "promise 8: IllegalStateException if the saggar is not empty, or the batch has fewer";
        for (int saggar = 0; saggar < 6; saggar++) {
            int of = saggar;
            PipeMoulds x = works(7, 8, 9);
            x.pass(2);
            fails("pack(0, " + of + ", 8) of 7", STATE, x, () -> x.pack(0, of, 8));
            due("pack(0, " + of + ", 1) into an empty one", 6, () -> x.pack(0, of, 1));
            fails("pack(0, " + of + ", 1) into one that has 1", STATE, x, () -> x.pack(0, of, 1));
            fails("pack(1, " + of + ", 8), for both", STATE, x, () -> x.pack(1, of, 8));
            int next = (of + 1) % 6;
            fails("pack(0, " + next + ", 7) of 6", STATE, x, () -> x.pack(0, next, 7));
            due("pack(0, " + next + ", 6) of 6", 0, () -> x.pack(0, next, 6));
            x.fire(1);
            due("pack(0, " + of + ", 7) into a fired one", 0, () -> x.pack(0, of, 7));
        }
    }

    private static void fireArgument() {
        part = "promise 9: IllegalArgumentException if coals is not 1 to 30";
        PipeMoulds x = works(1, 8, 9);
        x.buy(1, 30);
        x.pass(2);
        x.pack(0, 0, 1);
        failsOutside(1, 30, "fire", ARGUMENT, x, n -> x.fire(n));
        due("fire(30)", 0, () -> x.fire(30));
        due("coals", 20, () -> x.count(2));
        x.pack(0, 0, 1);
        due("fire(1)", 0, () -> x.fire(1));
        due("coals", 19, () -> x.count(2));
    }

    private static void fireState() {
        part = "promise 9: IllegalStateException if there are fewer, or all saggars are empty";
        PipeMoulds x = works(9, 8, 9);
        x.pass(1);
        fails("fire(1), all saggars empty", STATE, x, () -> x.fire(1));
        fails("fire(20), all saggars empty", STATE, x, () -> x.fire(20));
        x.pack(0, 3, 9);
        fails("fire(21) of 20", STATE, x, () -> x.fire(21));
        due("fire(20) of 20 breaks 40 + 22 of 9", 3, () -> x.fire(20));
        x.pass(1);
        x.pack(0, 3, 9);
        fails("fire(1) of 0", STATE, x, () -> x.fire(1));
        for (int saggar = 0; saggar < 6; saggar++) {
            int of = saggar;
            PipeMoulds y = works(1, 8, 9);
            y.pass(1);
            y.pack(0, of, 1);
            due("fire(9) with saggar " + of + " alone", 0, () -> y.fire(9));
            fails("fire(9) again", STATE, y, () -> y.fire(9));
        }
    }

    private static void orderArgument() {
        part = "promise 10: IllegalArgumentException if length is not 4 to 24, many is not 1 to 99,"
                + " days is not 0 to 30, or pays is not 1 to 99";
        PipeMoulds x = new PipeMoulds();
        failsOutside(4, 24, "order, length", ARGUMENT, x, n -> x.order(n, 2, 3, 4));
        failsOutside(1, 99, "order, many", ARGUMENT, x, n -> x.order(8, n, 3, 4));
        failsOutside(0, 30, "order, days", ARGUMENT, x, n -> x.order(8, 2, n, 4));
        failsOutside(1, 99, "order, pays", ARGUMENT, x, n -> x.order(8, 2, 3, n));
        due("order(4, 2, 3, 4)", 1, () -> x.order(4, 2, 3, 4));
        due("order(24, 2, 3, 4)", 2, () -> x.order(24, 2, 3, 4));
        due("order(8, 1, 3, 4)", 3, () -> x.order(8, 1, 3, 4));
        due("order(8, 99, 3, 4)", 4, () -> x.order(8, 99, 3, 4));
        due("order(8, 2, 0, 4)", 5, () -> x.order(8, 2, 0, 4));
        due("order(8, 2, 30, 4)", 6, () -> x.order(8, 2, 30, 4));
        due("order(8, 2, 3, 1)", 7, () -> x.order(8, 2, 3, 1));
        due("order(8, 2, 3, 99)", 8, () -> x.order(8, 2, 3, 99));
        row("waits 3", new int[] {8, 99, 3, 4}, what -> x.waits(3, what));
        row("waits 5", new int[] {8, 2, 30, 4}, what -> x.waits(5, what));
        row("waits 7", new int[] {8, 2, 3, 99}, what -> x.waits(7, what));
    }

    private static void orderState() {
        part = "promise 10: IllegalStateException if 8 wait";
        PipeMoulds x = new PipeMoulds();
        for (int waiting = 1; waiting <= 8; waiting++) {
            int then = waiting;
            due("order number " + then, then, () -> x.order(8, 1, then == 1 ? 0 : 1, 1));
        }
        fails("order with 8 that wait", STATE, x, () -> x.order(8, 1, 1, 1));
        x.pass(1);
        due("order with 7 that wait", 8, () -> x.order(8, 1, 1, 1));
        fails("order with 8 that wait again", STATE, x, () -> x.order(8, 1, 1, 1));
    }

    // ---- what there is

    private static void aboutIndex() {
        part = "promise 11: IndexOutOfBoundsException if there is no such mould, or what is not 0 to 5";
        PipeMoulds x = new PipeMoulds();
        fails("about(0, 0) without moulds", INDEX, x, () -> x.about(0, 0));
        for (int moulds = 1; moulds <= 6; moulds++) {
            x.mould(8, 9);
            int last = moulds - 1;
            failsOutside(0, last, "about, mould", INDEX, x, n -> x.about(n, 0));
            failsOutside(0, 5, "about, what", INDEX, x, n -> x.about(last, n));
            due("about(" + last + ", 0)", 8, () -> x.about(last, 0));
            due("about(" + last + ", 5)", -1, () -> x.about(last, 5));
        }
        due("about(0, 0)", 8, () -> x.about(0, 0));
        due("about(0, 5)", -1, () -> x.about(0, 5));
    }

    private static void toldIndex() {
        part = "promise 12: IndexOutOfBoundsException if there is no such maker, or what is not 0 to 1";
        PipeMoulds x = new PipeMoulds();
        fails("told(0, 0) without makers", INDEX, x, () -> x.told(0, 0));
        for (int makers = 1; makers <= 5; makers++) {
            x.maker(makers);
            int last = makers - 1;
            failsOutside(0, last, "told, maker", INDEX, x, n -> x.told(n, 0));
            failsOutside(0, 1, "told, what", INDEX, x, n -> x.told(last, n));
            due("told(" + last + ", 0)", last + 1, () -> x.told(last, 0));
            due("told(" + last + ", 1)", -1, () -> x.told(last, 1));
        }
        due("told(0, 0)", 1, () -> x.told(0, 0));
        due("told(0, 1)", -1, () -> x.told(0, 1));
    }

    private static void batchIndex() {
        part = "promise 13: IndexOutOfBoundsException if there is no such batch, or what is not 0 to 3";
        PipeMoulds x = works(9, 8, 7);
        fails("batch(0, 0) without batches", INDEX, x, () -> x.batch(0, 0));
        for (int batches : new int[] {1, 9, 10}) {
            x.pass(batches - x.count(0));
            int last = batches - 1;
            failsOutside(0, last, "batch, batch", INDEX, x, n -> x.batch(n, 0));
            failsOutside(0, 3, "batch, what", INDEX, x, n -> x.batch(last, n));
            due("batch(" + last + ", 0)", 8, () -> x.batch(last, 0));
        }
        due("batch(0, 0)", 8, () -> x.batch(0, 0));
        due("batch(0, 3)", 2, () -> x.batch(0, 3));
        x.pack(4, 0, 9);
        fails("batch(9, 0) when one is packed", INDEX, x, () -> x.batch(9, 0));
        due("batch(8, 1) when one is packed", 9, () -> x.batch(8, 1));
    }

    private static void saggarIndex() {
        part = "promise 14: IndexOutOfBoundsException if saggar is not 0 to 5, or what is not 0 to 3";
        PipeMoulds x = works(9, 8, 7);
        x.pass(1);
        x.pack(0, 0, 2);
        x.pack(0, 5, 3);
        failsOutside(0, 5, "saggar, saggar", INDEX, x, n -> x.saggar(n, 0));
        failsOutside(0, 3, "saggar, what", INDEX, x, n -> x.saggar(0, n));
        failsOutside(0, 3, "saggar, what, of an empty one", INDEX, x, n -> x.saggar(1, n));
        row("saggar 0", new int[] {8, 2, 5, 2}, what -> x.saggar(0, what));
        row("saggar 5", new int[] {8, 3, 5, 2}, what -> x.saggar(5, what));
    }

    private static void storeIndex() {
        part = "promise 15: IndexOutOfBoundsException if length is not 4 to 24";
        PipeMoulds x = new PipeMoulds();
        failsOutside(4, 24, "store", INDEX, x, n -> x.store(n));
        fails("store(0)", INDEX, x, () -> x.store(0));
        due("store(4)", 0, () -> x.store(4));
        due("store(24)", 0, () -> x.store(24));
    }

    private static void waitsIndex() {
        part = "promise 16: IndexOutOfBoundsException if there is no such order, or what is not 0 to 3";
        PipeMoulds x = new PipeMoulds();
        fails("waits(0, 0) without orders", INDEX, x, () -> x.waits(0, 0));
        for (int orders = 1; orders <= 8; orders++) {
            x.order(8, 2, orders == 8 ? 0 : 1, orders);
            int last = orders - 1;
            failsOutside(0, last, "waits, place", INDEX, x, n -> x.waits(n, 0));
            fails("waits(" + last + ", -1)", INDEX, x, () -> x.waits(last, -1));
            fails("waits(" + last + ", 4)", INDEX, x, () -> x.waits(last, 4));
            due("waits(" + last + ", 0)", 8, () -> x.waits(last, 0));
            due("waits(" + last + ", 3)", orders, () -> x.waits(last, 3));
        }
        due("waits(0, 3)", 1, () -> x.waits(0, 3));
        x.pass(1);
        fails("waits(7, 0), that is lost", INDEX, x, () -> x.waits(7, 0));
        failsOutside(0, 3, "waits, what", INDEX, x, n -> x.waits(6, n));
        due("waits(6, 3)", 7, () -> x.waits(6, 3));
    }

    private static void countIndex() {
        part = "promise 17: IndexOutOfBoundsException if what is not 0 to 11";
        PipeMoulds x = new PipeMoulds();
        x.order(8, 1, 0, 1);
        x.pass(3);
        failsOutside(0, 11, "count", INDEX, x, n -> x.count(n));
        due("count(0)", 3, () -> x.count(0));
        due("count(11)", 1, () -> x.count(11));
    }

    // ---- days and what would be

    private static void passArgument() {
        part = "promise 18: IllegalArgumentException if days is not 1 to 40";
        PipeMoulds x = works(1, 8, 9);
        failsOutside(1, 40, "pass", ARGUMENT, x, n -> x.pass(n));
        due("pass(1)", 1, () -> x.pass(1));
        due("the day", 1, () -> x.count(0));
        due("pass(40)", 9, () -> x.pass(40));
        due("the day", 41, () -> x.count(0));
    }

    private static void breaksIndex() {
        part = "promise 19: IndexOutOfBoundsException if saggar is not 0 to 5";
        PipeMoulds x = works(9, 8, 9);
        x.pass(1);
        x.pack(0, 0, 1);
        x.pack(0, 5, 1);
        failsOutside(0, 5, "breaks, saggar", INDEX, x, n -> x.breaks(n, 9));
        due("breaks(0, 9)", 1, () -> x.breaks(0, 9));
        due("breaks(5, 9)", 1, () -> x.breaks(5, 9));
    }

    private static void breaksArgument() {
        part = "promise 19: IllegalArgumentException if coals is not 1 to 30";
        PipeMoulds x = works(9, 8, 9);
        failsOutside(1, 30, "breaks, coals, of an empty one", ARGUMENT, x, n -> x.breaks(2, n));
        x.pass(6);
        x.pack(0, 2, 9);
        failsOutside(1, 30, "breaks, coals", ARGUMENT, x, n -> x.breaks(2, n));
        due("breaks(2, 1): 16 of 9", 2, () -> x.breaks(2, 1));
        due("breaks(2, 30): 42 of 9", 4, () -> x.breaks(2, 30));
    }

    private static void readyIndex() {
        part = "promise 21: IndexOutOfBoundsException if there is no such order";
        PipeMoulds x = withWhole(1);
        fails("ready(0) without orders", INDEX, x, () -> x.ready(0));
        for (int orders = 1; orders <= 8; orders++) {
            x.order(8, orders == 8 ? 1 : 2, 1, 1);
            int last = orders - 1;
            failsOutside(0, last, "ready", INDEX, x, n -> x.ready(n));
            due("ready(" + last + ")", orders == 8 ? 1 : -1, () -> x.ready(last));
        }
        x.pass(1);
        fails("ready(7), that is served", INDEX, x, () -> x.ready(7));
        due("ready(0)", -1, () -> x.ready(0));
    }

    private static void foreseeArgument() {
        part = "promise 22: IllegalArgumentException if days is not 1 to 40";
        PipeMoulds x = new PipeMoulds();
        failsOutside(1, 40, "foresee, days", ARGUMENT, x, n -> x.foresee(n, 0));
        due("foresee(1, 0)", 1, () -> x.foresee(1, 0));
        due("foresee(40, 0)", 40, () -> x.foresee(40, 0));
    }

    private static void foreseeIndex() {
        part = "promise 22: IndexOutOfBoundsException if what is not 0 to 11";
        PipeMoulds x = new PipeMoulds();
        x.order(8, 1, 2, 1);
        failsOutside(0, 11, "foresee, what", INDEX, x, n -> x.foresee(3, n));
        due("foresee(3, 0)", 3, () -> x.foresee(3, 0));
        due("foresee(3, 11)", 1, () -> x.foresee(3, 11));
    }

    // ---- what holds for all of them

    private static void firstNamedIsThrown() {
        part = "If several exceptions apply, the one that is named first is thrown";
        PipeMoulds x = fullWorks();
        fails("mould(25, 9), there are 6", ARGUMENT, x, () -> x.mould(25, 9));
        fails("mould(8, -1), there are 6", ARGUMENT, x, () -> x.mould(8, -1));
        fails("refit(6) with 1 coin", INDEX, x, () -> x.refit(6));
        fails("maker(0), there are 5", ARGUMENT, x, () -> x.maker(0));
        fails("place(5, 0), a maker is there", INDEX, x, () -> x.place(5, 0));
        fails("place(-1, 0), a maker is there", INDEX, x, () -> x.place(-1, 0));
        fails("buy(2, 0)", INDEX, x, () -> x.buy(2, 0));
        fails("buy(-1, 201)", INDEX, x, () -> x.buy(-1, 201));
        fails("buy(2, 200) with 1 coin", INDEX, x, () -> x.buy(2, 200));
        fails("buy(0, 201) with 1 coin", ARGUMENT, x, () -> x.buy(0, 201));
        fails("buy(1, 201) with 1 coin", ARGUMENT, x, () -> x.buy(1, 201));
        fails("setDry(7, 4)", INDEX, x, () -> x.setDry(7, 4));
        fails("setDry(-1, -1)", INDEX, x, () -> x.setDry(-1, -1));
        fails("pack(10, 0, 25)", INDEX, x, () -> x.pack(10, 0, 25));
        fails("pack(0, 6, 0)", INDEX, x, () -> x.pack(0, 6, 0));
        fails("pack(10, 0, 1), saggar 0 is not empty", INDEX, x, () -> x.pack(10, 0, 1));
        fails("pack(0, 6, 24), the batch has fewer", INDEX, x, () -> x.pack(0, 6, 24));
        fails("pack(0, 0, 25), saggar 0 is not empty", ARGUMENT, x, () -> x.pack(0, 0, 25));
        fails("pack(0, 0, 0), saggar 0 is not empty", ARGUMENT, x, () -> x.pack(0, 0, 0));
        fails("fire(31) of fewer", ARGUMENT, x, () -> x.fire(31));
        fails("order(3, 1, 1, 1), 8 wait", ARGUMENT, x, () -> x.order(3, 1, 1, 1));
        fails("order(8, 100, 1, 1), 8 wait", ARGUMENT, x, () -> x.order(8, 100, 1, 1));
        fails("order(8, 1, 31, 1), 8 wait", ARGUMENT, x, () -> x.order(8, 1, 31, 1));
        fails("order(8, 1, 1, 0), 8 wait", ARGUMENT, x, () -> x.order(8, 1, 1, 0));
        fails("breaks(6, 0)", INDEX, x, () -> x.breaks(6, 0));
        fails("breaks(-1, 31)", INDEX, x, () -> x.breaks(-1, 31));
        fails("foresee(0, 12)", ARGUMENT, x, () -> x.foresee(0, 12));
        fails("foresee(41, -1)", ARGUMENT, x, () -> x.foresee(41, -1));
        PipeMoulds y = new PipeMoulds();
        fails("fire(0), all saggars empty", ARGUMENT, y, () -> y.fire(0));
        fails("pack(0, 0, 25) without batches", INDEX, y, () -> y.pack(0, 0, 25));
    }

    private static void nothingIsChangedOnANewObject() {
        part = "A method that throws an exception changes nothing, on a new object";
        PipeMoulds x = new PipeMoulds();
        for (LongSupplier call : wrongCalls(x)) {
            refused(x, call);
        }
        sameFromNowOn(x, new PipeMoulds());
    }

    private static void nothingIsChangedOnAFullObject() {
        part = "A method that throws an exception changes nothing, on a full object";
        PipeMoulds x = fullWorks();
        for (LongSupplier call : wrongCalls(x)) {
            refused(x, call);
        }
        List<LongSupplier> hindered = new ArrayList<>();
        hindered.add(() -> x.mould(8, 9));
        hindered.add(() -> x.refit(0));
        hindered.add(() -> x.refit(1));
        hindered.add(() -> x.maker(5));
        hindered.add(() -> x.place(0, 1));
        hindered.add(() -> x.buy(0, 5));
        hindered.add(() -> x.buy(1, 2));
        hindered.add(() -> x.pack(0, 0, 1));
        hindered.add(() -> x.fire(x.count(2) + 1));
        hindered.add(() -> x.order(8, 1, 1, 1));
        for (LongSupplier call : hindered) {
            fails("a call on full works", STATE, x, call);
            refused(x, call);
        }
        sameFromNowOn(x, fullWorks());
    }

    private static void nothingIsChangedBetweenOtherCalls() {
        part = "A method that throws an exception changes nothing, between other calls";
        int calls = wrongCalls(new PipeMoulds()).size();
        for (int number = 0; number < calls; number++) {
            PipeMoulds x = withWhole(9);
            PipeMoulds twin = withWhole(9);
            x.order(8, 2, 3, 4);
            twin.order(8, 2, 3, 4);
            refused(x, wrongCalls(x).get(number));
            x.pass(1);
            refused(x, wrongCalls(x).get(number));
            twin.pass(1);
            sameFromNowOn(x, twin);
        }
    }

    private static void refused(PipeMoulds x, LongSupplier call) {
        checks++;
        long before = x.digest();
        boolean isRefused = false;
        try {
            call.getAsLong();
        } catch (IllegalArgumentException | IllegalStateException | IndexOutOfBoundsException e) {
            isRefused = true;
        }
        if (!isRefused || x.digest() != before) {
            tell("a wrong call", isRefused ? "a change" : "something", "an exception alone");
        }
    }

    /** Calls that have a wrong argument in every state. */
    private static List<LongSupplier> wrongCalls(PipeMoulds x) {
        List<LongSupplier> calls = new ArrayList<>();
        calls.add(() -> x.mould(25, 9));
        calls.add(() -> x.mould(8, 10));
        calls.add(() -> x.refit(6));
        calls.add(() -> x.maker(10));
        calls.add(() -> x.place(5, -1));
        calls.add(() -> x.place(0, 6));
        calls.add(() -> x.buy(2, 1));
        calls.add(() -> x.buy(0, 0));
        calls.add(() -> x.setDry(7, 3));
        calls.add(() -> x.setDry(0, 4));
        calls.add(() -> x.pack(10, 0, 1));
        calls.add(() -> x.pack(0, 6, 1));
        calls.add(() -> x.pack(0, 0, 25));
        calls.add(() -> x.fire(31));
        calls.add(() -> x.order(25, 1, 1, 1));
        calls.add(() -> x.order(8, 0, 1, 1));
        calls.add(() -> x.order(8, 1, 31, 1));
        calls.add(() -> x.order(8, 1, 1, 100));
        calls.add(() -> x.about(6, 0));
        calls.add(() -> x.about(0, 6));
        calls.add(() -> x.told(5, 0));
        calls.add(() -> x.told(0, 2));
        calls.add(() -> x.batch(10, 0));
        calls.add(() -> x.batch(0, 4));
        calls.add(() -> x.saggar(6, 0));
        calls.add(() -> x.saggar(0, 4));
        calls.add(() -> x.store(25));
        calls.add(() -> x.waits(8, 0));
        calls.add(() -> x.waits(0, 4));
        calls.add(() -> x.count(12));
        calls.add(() -> x.pass(41));
        calls.add(() -> x.breaks(6, 1));
        calls.add(() -> x.breaks(0, 31));
        calls.add(() -> x.ready(8));
        calls.add(() -> x.foresee(41, 0));
        calls.add(() -> x.foresee(1, 12));
        return calls;
    }

    /** 6 moulds, 5 makers at them, 10 batches, 6 saggars that are not empty, 8 orders, and 1 coin. */
    private static PipeMoulds fullWorks() {
        PipeMoulds x = new PipeMoulds();
        for (int mould = 0; mould < 6; mould++) {
            x.mould(8, mould == 0 ? 9 : mould);
        }
        for (int maker = 0; maker < 5; maker++) {
            x.maker(3);
            x.place(maker, maker);
        }
        x.pass(2);
        for (int saggar = 0; saggar < 6; saggar++) {
            x.pack(saggar, saggar, 1);
        }
        for (int order = 0; order < 8; order++) {
            x.order(8, 1, order, 7);
        }
        x.buy(0, 4 * (x.count(3) - 1));
        return x;
    }

    /** All that is done from now on has the same answers on both. */
    private static void sameFromNowOn(PipeMoulds x, PipeMoulds twin) {
        List<Function<PipeMoulds, Long>> calls = new ArrayList<>();
        calls.add(of -> of.digest());
        calls.add(of -> (long) of.advise());
        calls.add(of -> (long) of.pass(1));
        calls.add(of -> (long) of.foresee(40, 4));
        calls.add(of -> of.digest());
        calls.add(of -> (long) of.setDry(0, 1));
        calls.add(of -> (long) of.setDry(6, 1));
        calls.add(of -> (long) of.pass(40));
        calls.add(of -> of.digest());
        for (Function<PipeMoulds, Long> call : calls) {
            long want = call.apply(twin);
            due("the same as without the wrong calls", want, () -> call.apply(x));
        }
    }
}
