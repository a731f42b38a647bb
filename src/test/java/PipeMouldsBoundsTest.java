import java.math.BigInteger;
import java.util.ArrayList;
import java.util.List;

/**
 * For each sentence of the document that names a bound, a cut, a rounding, an empty or a full thing or a
 * wrap-around, and no exception, a test of its own: on both sides of the bound where it has two. The calls
 * that are refused have theirs in PipeMouldsRefusalTest.
 */
public final class PipeMouldsBoundsTest extends Checks {
    public static void main(String[] args) {
        runAll(
                PipeMouldsBoundsTest::atMost512Calls,
                PipeMouldsBoundsTest::storesAtFirst,
                PipeMouldsBoundsTest::theLastClayCoalAndCoin,
                PipeMouldsBoundsTest::mouldsAreNumberedFrom0,
                PipeMouldsBoundsTest::wornBy0AtFirstTo100,
                PipeMouldsBoundsTest::lengthOver8RoundedUp,
                PipeMouldsBoundsTest::aTenthOfTheWearCut,
                PipeMouldsBoundsTest::nineLessTheStopper,
                PipeMouldsBoundsTest::oneMakerAtAMould,
                PipeMouldsBoundsTest::tenBatchesAtMost,
                PipeMouldsBoundsTest::thoseBehindAreOneLess,
                PipeMouldsBoundsTest::wetBy0To6,
                PipeMouldsBoundsTest::sixSaggarsEmptyAtFirst,
                PipeMouldsBoundsTest::dayByTheRemainderOf7,
                PipeMouldsBoundsTest::driesByOneAtFirst,
                PipeMouldsBoundsTest::eightOrdersInTheirOrder,

                PipeMouldsBoundsTest::fewerThan10BatchesThen,
                PipeMouldsBoundsTest::asManyAsTheSkill,
                PipeMouldsBoundsTest::asFarAsThereIsClay,
                PipeMouldsBoundsTest::ifThatIsOneOrMore,
                PipeMouldsBoundsTest::theFlawAheadOfWhatFollows,
                PipeMouldsBoundsTest::aQuarterRoundedUp,
                PipeMouldsBoundsTest::wornByAtMost100,
                PipeMouldsBoundsTest::aGreaterTenthLoosens,
                PipeMouldsBoundsTest::stopperAtLeast0,
                PipeMouldsBoundsTest::batchesOfThisDayToo,
                PipeMouldsBoundsTest::lessWetAtLeast0,
                PipeMouldsBoundsTest::asManyWholePipesAsItIsFor,
                PipeMouldsBoundsTest::oneBehindTheOther,
                PipeMouldsBoundsTest::lostWithLessThan0,
                PipeMouldsBoundsTest::keepsNoPipesBack,
                PipeMouldsBoundsTest::theDayIsOneGreater,

                PipeMouldsBoundsTest::eightForEachWet,
                PipeMouldsBoundsTest::twoForEachFlaw,
                PipeMouldsBoundsTest::halfOfTheDifference,
                PipeMouldsBoundsTest::fiveInSaggars0And5,
                PipeMouldsBoundsTest::atMost100,
                PipeMouldsBoundsTest::roundedUpForEachSaggarByItself,
                PipeMouldsBoundsTest::othersComeIntoTheStore,
                PipeMouldsBoundsTest::coalsAreBurntWhateverBreaks,

                PipeMouldsBoundsTest::aNewObject,
                PipeMouldsBoundsTest::refitFor2Coins,
                PipeMouldsBoundsTest::placeAnswersMinus1ForNone,
                PipeMouldsBoundsTest::aCoinForEach4Pounds,
                PipeMouldsBoundsTest::noneLeftGoes,
                PipeMouldsBoundsTest::allSaggarsAreEmptyThen,
                PipeMouldsBoundsTest::all0ForAnEmptyOne,
                PipeMouldsBoundsTest::pipesThatAreMadeInThem,
                PipeMouldsBoundsTest::breaksHoweverManyCoals,
                PipeMouldsBoundsTest::adviseTheLeastOfSeveral,
                PipeMouldsBoundsTest::adviseMinus1IfAllAreEmpty,
                PipeMouldsBoundsTest::adviseHoweverManyCoals,
                PipeMouldsBoundsTest::readyOneForTheComingDay,
                PipeMouldsBoundsTest::readyMinus1IfItIsLost,
                PipeMouldsBoundsTest::foreseeAsItComes,
                PipeMouldsBoundsTest::theAskingChangesNothing,
                PipeMouldsBoundsTest::meanIs0WithoutAny,
                PipeMouldsBoundsTest::digestWrapsAround,
                PipeMouldsBoundsTest::digestOfThingsAndTheirOrder);
    }

    /** This many days on works that do nothing else: each day's batch is packed, each sixth day it is fired. */
    private static void workAway(PipeMoulds x, int days) {
        for (int gone = 0; gone < days; gone++) {
            int saggar = x.count(0) % 6;
            x.pack(0, saggar, x.pass(1));
            if (saggar == 5) {
                x.fire(1);
            }
        }
    }

    /** Pipes of a skill, length and flaw, as wet as told, all in one saggar. */
    private static PipeMoulds inSaggar(int saggar, int pipes, int length, int flaw, int wet) {
        PipeMoulds x = works(pipes, length, 9 - flaw);
        noDrying(x);
        x.pass(1);
        x.place(0, -1);
        for (int less = 6; less > wet; less--) {
            x.setDry(x.count(0) % 7, 1);
            x.pass(1);
        }
        x.pack(0, saggar, pipes);
        return x;
    }

    // ---- terms

    private static void atMost512Calls() {
        part = "An object is used for at most 512 calls after it has been made";
        PipeMoulds x = works(9, 8, 9);
        for (int call = 4; call <= 511; call++) {
            x.pass(40);
        }
        due("call 512: the day", 508 * 40, () -> x.count(0));
        PipeMoulds y = new PipeMoulds();
        for (int call = 1; call <= 510; call++) {
            if (call % 9 == 0) {
                y.pass(1);
            } else {
                y.order(8, 1, 0, 1);
            }
        }
        due("call 511: orders that wait", 6, () -> y.count(9));
        due("call 512: orders that were lost", 56 * 8, () -> y.count(11));
        PipeMoulds z = works(1, 8, 9);
        for (int call = 4; call <= 511; call++) {
            z.foresee(40, call % 12);
        }
        due("call 512", 10, () -> z.foresee(40, 6));
    }

    private static void storesAtFirst() {
        part = "There are 200 pounds of clay, 20 coals and 30 coins, at first; and whole pipes of each length (none)";
        PipeMoulds x = new PipeMoulds();
        due("clay", 200, () -> x.count(1));
        due("coals", 20, () -> x.count(2));
        due("coins", 30, () -> x.count(3));
        due("pipes in the store", 0, () -> x.count(8));
        for (int length = 4; length <= 24; length++) {
            int of = length;
            due("store(" + of + ")", 0, () -> x.store(of));
        }
    }

    private static void theLastClayCoalAndCoin() {
        part = "200 pounds of clay, 20 coals and 30 coins: all of them can be used, and no more";
        PipeMoulds x = works(8, 24, 9);
        x.mould(16, 9);
        x.maker(8);
        x.place(1, 1);
        due("pass(5): 40 pounds a day", 80, () -> x.pass(5));
        due("clay", 0, () -> x.count(1));
        x.pack(0, 0, 8);
        due("pass(1) without clay", 0, () -> x.pass(1));
        fails("fire(21)", STATE, x, () -> x.fire(21));
        x.fire(20);
        due("coals", 0, () -> x.count(2));
        fails("buy(1, 31)", STATE, x, () -> x.buy(1, 31));
        due("buy(1, 30)", 30, () -> x.buy(1, 30));
        due("coins", 0, () -> x.count(3));
    }

    private static void mouldsAreNumberedFrom0() {
        part = "numbered from 0 in the order of their making; makers likewise";
        PipeMoulds x = new PipeMoulds();
        for (int number = 0; number < 6; number++) {
            int of = number;
            due("mould " + of, of, () -> x.mould(4 + of, of));
        }
        for (int number = 0; number < 5; number++) {
            int of = number;
            due("maker " + of, of, () -> x.maker(9 - of));
        }
        for (int number = 0; number < 6; number++) {
            int of = number;
            due("length of " + of, 4 + of, () -> x.about(of, 0));
            due("stopper of " + of, of, () -> x.about(of, 1));
        }
        for (int number = 0; number < 5; number++) {
            int of = number;
            due("skill of " + of, 9 - of, () -> x.told(of, 0));
            due("mould of " + of + ", none at first", -1, () -> x.told(of, 1));
        }
    }

    private static void wornBy0AtFirstTo100() {
        part = "is worn by 0 (at first) to 100";
        PipeMoulds x = works(1, 8, 9);
        due("at first", 0, () -> x.about(0, 2));
        workAway(x, 99);
        due("behind 99 days", 99, () -> x.about(0, 2));
        workAway(x, 1);
        due("behind 100 days", 100, () -> x.about(0, 2));
        workAway(x, 1);
        due("behind 101 days", 100, () -> x.about(0, 2));
    }

    private static void lengthOver8RoundedUp() {
        part = "A pipe out of it takes length / 8 pounds of clay, rounded up";
        for (int length = 4; length <= 24; length++) {
            int of = length;
            int pounds = length <= 8 ? 1 : length <= 16 ? 2 : 3;
            PipeMoulds x = works(1, of, 9);
            due("clay of one of length " + of, pounds, () -> x.about(0, 4));
            x.pass(1);
            due("clay behind one of length " + of, 200 - pounds, () -> x.count(1));
        }
    }

    private static void aTenthOfTheWearCut() {
        part = "has a flaw: a tenth (cut) of what the mould is worn";
        PipeMoulds x = works(1, 8, 9);
        workAway(x, 9);
        due("flaw, worn by 9", 0, () -> x.about(0, 3));
        workAway(x, 1);
        x.refit(0);
        due("flaw, worn by 10", 1, () -> x.about(0, 3));
        workAway(x, 9);
        due("flaw, worn by 19", 1, () -> x.about(0, 3));
        workAway(x, 1);
        x.refit(0);
        due("flaw, worn by 20", 2, () -> x.about(0, 3));
        workAway(x, 79);
        x.refit(0);
        due("flaw, worn by 99", 9, () -> x.about(0, 3));
        workAway(x, 1);
        x.refit(0);
        due("flaw, worn by 100", 10, () -> x.about(0, 3));
    }

    private static void nineLessTheStopper() {
        part = "and 9 less what its stopper is tight, added";
        for (int stopper = 0; stopper <= 9; stopper++) {
            int flaw = 9 - stopper;
            PipeMoulds x = works(1, 8, stopper);
            due("flaw with a stopper of " + stopper, flaw, () -> x.about(0, 3));
            x.pass(1);
            due("flaw of its batch", flaw, () -> x.batch(0, 3));
        }
    }

    private static void oneMakerAtAMould() {
        part = "is at a mould or at none (at first); at a mould there is one at most";
        PipeMoulds x = new PipeMoulds();
        x.mould(8, 9);
        x.maker(2);
        x.maker(3);
        due("none at the mould", -1, () -> x.about(0, 5));
        due("pass(1), nobody is at a mould", 0, () -> x.pass(1));
        x.place(1, 0);
        fails("place(0, 0)", STATE, x, () -> x.place(0, 0));
        due("the maker at the mould", 1, () -> x.about(0, 5));
        due("pass(1), one is", 3, () -> x.pass(1));
        x.place(1, -1);
        due("pass(1), nobody is again", 0, () -> x.pass(1));
    }

    private static void tenBatchesAtMost() {
        part = "At most 10 batches lie on them, numbered from 0 by their age, the oldest one first";
        PipeMoulds x = works(1, 8, 9);
        due("pass(9)", 9, () -> x.pass(9));
        due("pass(1), the 10th", 1, () -> x.pass(1));
        due("pass(1), no 11th", 0, () -> x.pass(1));
        due("pipes on boards", 10, () -> x.count(6));
        due("the oldest is dry", 0, () -> x.batch(0, 2));
        due("the youngest is wet", 4, () -> x.batch(9, 2));
        fails("batch(10, 0)", INDEX, x, () -> x.batch(10, 0));
    }

    private static void thoseBehindAreOneLess() {
        part = "Where one goes, those behind it have numbers that are 1 less";
        for (int going = 0; going < 10; going++) {
            PipeMoulds x = new PipeMoulds();
            for (int number = 0; number < 5; number++) {
                x.mould(4 + number, 9);
                x.maker(2);
                x.place(number, number);
            }
            x.pass(2);
            x.pack(going, 0, 2);
            for (int batch = 0; batch < 9; batch++) {
                int of = batch;
                int before = batch < going ? batch : batch + 1;
                int[] want = {4 + before % 5, 2, before < 5 ? 4 : 5, 0};
                row("when " + going + " is gone, batch " + of, want, what -> x.batch(of, what));
            }
            fails("when one is gone, batch 9", INDEX, x, () -> x.batch(9, 0));
        }
    }

    private static void wetBy0To6() {
        part = "and wet by 0 to 6";
        PipeMoulds x = works(1, 8, 9);
        noDrying(x);
        x.pass(1);
        due("a new batch, when nothing dries", 6, () -> x.batch(0, 2));
        x.pass(7);
        due("it gets no wetter", 6, () -> x.batch(0, 2));
        PipeMoulds y = works(1, 8, 9);
        for (int day = 1; day <= 8; day++) {
            y.pass(1);
            int wet = Math.max(0, 6 - day);
            due("behind day " + day, wet, () -> y.batch(0, 2));
        }
    }

    private static void sixSaggarsEmptyAtFirst() {
        part = "There are 6, 0 to 5; each is empty (at first) or has up to 24 pipes";
        PipeMoulds x = works(9, 8, 9);
        x.pass(6);
        for (int saggar = 0; saggar < 6; saggar++) {
            int of = saggar;
            row("saggar " + of + ", at first", new int[4], what -> x.saggar(of, what));
            due("pack(0, " + of + ", 9)", 0, () -> x.pack(0, of, 9));
            due("saggar " + of + ", then", 9, () -> x.saggar(of, 1));
        }
        due("pipes in saggars", 54, () -> x.count(7));
        fails("saggar(6, 0)", INDEX, x, () -> x.saggar(6, 0));
    }

    private static void dayByTheRemainderOf7() {
        part = "the day by the remainder of 7";
        PipeMoulds x = works(1, 8, 9);
        noDrying(x);
        x.setDry(6, 2);
        x.setDry(0, 1);
        x.place(0, -1);
        x.pass(6);
        x.place(0, 0);
        x.pass(1);
        due("a batch of day 6", 4, () -> x.batch(0, 2));
        x.pass(1);
        due("a batch of day 7, as of day 0", 5, () -> x.batch(1, 2));
        x.pass(6);
        due("a batch of day 13, as of day 6", 4, () -> x.batch(7, 2));
        x.pass(1);
        due("a batch of day 14, as of day 0", 5, () -> x.batch(8, 2));
    }

    private static void driesByOneAtFirst() {
        part = "by how much it dries, 0 to 3 (1, at first)";
        PipeMoulds x = new PipeMoulds();
        for (int day = 0; day < 7; day++) {
            int of = day;
            due("day " + of + ", at first", 1, () -> x.setDry(of, 3));
            due("day " + of + ", then", 3, () -> x.setDry(of, 0));
        }
        for (int day = 0; day < 7; day++) {
            int of = day;
            due("day " + of + ", in the end", 0, () -> x.setDry(of, 1));
        }
        for (int by = 0; by <= 3; by++) {
            PipeMoulds y = works(1, 8, 9);
            y.setDry(0, by);
            y.pass(1);
            int wet = 6 - by;
            due("a batch of a day that dries by " + by, wet, () -> y.batch(0, 2));
        }
    }

    private static void eightOrdersInTheirOrder() {
        part = "At most 8 wait, in the order of their coming";
        PipeMoulds x = new PipeMoulds();
        for (int order = 0; order < 8; order++) {
            x.order(4 + order, 1 + order, order == 2 ? 0 : 10 + order, 50 + order);
        }
        fails("the 9th", STATE, x, () -> x.order(8, 1, 1, 1));
        row("waits 0", new int[] {4, 1, 10, 50}, what -> x.waits(0, what));
        row("waits 7", new int[] {11, 8, 17, 57}, what -> x.waits(7, what));
        x.pass(1);
        due("those that wait, one is lost", 7, () -> x.count(9));
        row("waits 1, ahead of it", new int[] {5, 2, 10, 51}, what -> x.waits(1, what));
        row("waits 2, behind it", new int[] {7, 4, 12, 53}, what -> x.waits(2, what));
        row("waits 6, behind it", new int[] {11, 8, 16, 57}, what -> x.waits(6, what));
        due("the 8th again", 8, () -> x.order(24, 99, 30, 99));
        row("waits 7, the last to come", new int[] {24, 99, 30, 99}, what -> x.waits(7, what));
    }

    // ---- a day

    private static void fewerThan10BatchesThen() {
        part = "Makers who are at a mould, by numbers, each, if there are fewer than 10 batches then";
        PipeMoulds x = works(2, 8, 9);
        x.mould(9, 9);
        x.maker(3);
        x.place(1, 1);
        x.pass(4);
        due("pass(1) with 8 batches: both", 5, () -> x.pass(1));
        long worn = x.about(0, 2) * 100L + x.about(1, 2);
        int clay = x.count(1);
        due("pass(1) with 10 batches: none", 0, () -> x.pass(1));
        due("clay", clay, () -> x.count(1));
        due("no mould is worn more", worn, () -> x.about(0, 2) * 100L + x.about(1, 2));
        x.pack(9, 0, 3);
        due("pass(1) with 9 batches: the first alone", 2, () -> x.pass(1));
        due("its clay alone", clay - 2, () -> x.count(1));
        due("its mould alone is worn more", worn + 100, () -> x.about(0, 2) * 100L + x.about(1, 2));
        due("its batch is the last", 8, () -> x.batch(9, 0));
        x.place(0, -1);
        x.pack(9, 1, 2);
        due("pass(1) with 9 batches: the second, when the first is at none", 3, () -> x.pass(1));
    }

    private static void asManyAsTheSkill() {
        part = "as many pipes as the skill";
        for (int skill = 1; skill <= 9; skill++) {
            int of = skill;
            PipeMoulds x = works(of, 24, 9);
            due("pass(1) with a skill of " + of, of, () -> x.pass(1));
            due("its batch", of, () -> x.batch(0, 1));
            due("clay", 200 - 3 * of, () -> x.count(1));
        }
    }

    private static void asFarAsThereIsClay() {
        part = "as far as there is clay for them (whole pipes alone)";
        // Pipes of 3 pounds, 9 a day; pounds that are bought to the 11 of day 7, pipes then, pounds then.
        int[][] cases = {{17, 9, 1}, {16, 9, 0}, {15, 8, 2}, {14, 8, 1}, {13, 8, 0}, {12, 7, 2}, {1, 4, 0}, {0, 3, 2}};
        for (int[] of : cases) {
            PipeMoulds x = works(9, 24, 9);
            x.pass(7);
            if (of[0] > 0) {
                x.buy(0, of[0]);
            }
            due("pass(1) with " + (11 + of[0]) + " pounds", of[1], () -> x.pass(1));
            due("clay", of[2], () -> x.count(1));
        }
    }

    private static void ifThatIsOneOrMore() {
        part = "If that is one or more, their clay is gone, and they are a new batch";
        PipeMoulds x = works(9, 24, 9);
        x.pass(8);
        due("clay", 2, () -> x.count(1));
        due("worn", 22, () -> x.about(0, 2));
        due("pass(1) with 2 of 3 pounds", 0, () -> x.pass(1));
        fails("batch(8, 0)", INDEX, x, () -> x.batch(8, 0));
        due("clay, then", 2, () -> x.count(1));
        due("worn, then", 22, () -> x.about(0, 2));
        x.mould(16, 9);
        x.maker(9);
        x.place(1, 1);
        due("pass(1): one of 2 pounds for the next maker", 1, () -> x.pass(1));
        row("batch 8", new int[] {16, 1, 5, 0}, what -> x.batch(8, what));
        due("pass(1) without clay", 0, () -> x.pass(1));
        x.buy(0, 3);
        due("pass(1) with 3 of 3 pounds", 1, () -> x.pass(1));
        due("batch 9", 24, () -> x.batch(9, 0));
    }

    private static void theFlawAheadOfWhatFollows() {
        part = "the flaw that it has now (ahead of what follows), wet by 6";
        PipeMoulds x = works(9, 8, 9);
        x.pass(5);
        due("flaw of the batch of day 2, worn by 6 to 9", 0, () -> x.batch(2, 3));
        due("flaw of the batch of day 3, worn by 9 to 12", 0, () -> x.batch(3, 3));
        due("flaw of the batch of day 4, worn by 12", 2, () -> x.batch(4, 3));
    }

    private static void aQuarterRoundedUp() {
        part = "Then the mould is worn by a quarter (rounded up) of these pipes more";
        int[] quarters = {0, 1, 1, 1, 1, 2, 2, 2, 2, 3};
        for (int skill = 1; skill <= 9; skill++) {
            int of = skill;
            PipeMoulds x = works(of, 8, 9);
            x.pass(1);
            due("worn by " + of + " pipes", quarters[of], () -> x.about(0, 2));
            x.pass(1);
            due("worn by " + of + " more", 2 * quarters[of], () -> x.about(0, 2));
        }
        PipeMoulds y = works(9, 24, 9);
        y.pass(7);
        y.buy(0, 4);
        y.pass(1);
        due("worn by 5 pipes, as there is clay for 5 alone", 21 + 2, () -> y.about(0, 2));
    }

    private static void wornByAtMost100() {
        part = "worn by a quarter more (at most 100)";
        PipeMoulds x = works(9, 8, 9);
        x.buy(0, 112);
        workAway(x, 33);
        due("worn by 33 * 3", 99, () -> x.about(0, 2));
        workAway(x, 1);
        due("worn by 34 * 3, at most 100", 100, () -> x.about(0, 2));
        PipeMoulds y = works(1, 8, 9);
        workAway(y, 1);
        y.maker(9);
        y.place(0, -1);
        y.place(1, 0);
        y.buy(0, 112);
        workAway(y, 33);
        due("worn by 1 + 33 * 3", 100, () -> y.about(0, 2));
    }

    private static void aGreaterTenthLoosens() {
        part = "if a tenth (cut) of what it is worn then is greater than a tenth (cut) of what it was worn before,"
                + " its stopper is tight by 1 less";
        PipeMoulds x = works(1, 8, 9);
        int[] stoppers = {9, 8, 8};
        workAway(x, 8);
        for (int day = 0; day < 3; day++) {
            workAway(x, 1);
            int want = stoppers[day];
            due("worn by " + (9 + day), want, () -> x.about(0, 1));
        }
        workAway(x, 8);
        due("worn by 19", 8, () -> x.about(0, 1));
        workAway(x, 1);
        due("worn by 20", 7, () -> x.about(0, 1));
        workAway(x, 79);
        x.refit(0);
        due("worn by 99", 99, () -> x.about(0, 2));
        workAway(x, 1);
        due("worn by 99, then 100", 8, () -> x.about(0, 1));
        x.refit(0);
        workAway(x, 1);
        due("worn by 100, then no more", 9, () -> x.about(0, 1));
        PipeMoulds y = works(9, 8, 9);
        y.pass(3);
        due("worn by 9", 9, () -> y.about(0, 1));
        y.pass(1);
        due("worn by 9, then 12", 8, () -> y.about(0, 1));
        y.pass(2);
        due("worn by 12, 15, 18", 8, () -> y.about(0, 1));
        y.pass(1);
        due("worn by 18, then 21", 7, () -> y.about(0, 1));
    }

    private static void stopperAtLeast0() {
        part = "its stopper is tight by 1 less (at least 0)";
        for (int stopper = 0; stopper <= 2; stopper++) {
            PipeMoulds x = works(9, 8, stopper);
            x.pass(4);
            int one = Math.max(0, stopper - 1);
            due("a stopper of " + stopper + ", worn by 12", one, () -> x.about(0, 1));
            x.pass(3);
            due("a stopper of " + stopper + ", worn by 21", 0, () -> x.about(0, 1));
            due("its flaw", 9 + 2, () -> x.about(0, 3));
        }
    }

    private static void batchesOfThisDayToo() {
        part = "All batches (also those of this day) and all saggars are less wet by what the day dries";
        PipeMoulds x = works(2, 8, 9);
        for (int day = 0; day < 7; day++) {
            x.setDry(day, 2);
        }
        x.pass(1);
        due("a batch of this day", 4, () -> x.batch(0, 2));
        for (int saggar = 0; saggar < 6; saggar++) {
            PipeMoulds y = works(2, 8, 9);
            y.pass(1);
            y.pack(0, saggar, 1);
            y.pass(1);
            int of = saggar;
            due("saggar " + of, 4, () -> y.saggar(of, 2));
            due("the rest on the board", 4, () -> y.batch(0, 2));
            due("a batch of this day", 5, () -> y.batch(1, 2));
        }
        PipeMoulds z = works(1, 8, 9);
        z.pass(10);
        z.setDry(z.count(0) % 7, 3);
        z.pass(1);
        due("the 10th batch, of the day before", 2, () -> z.batch(9, 2));
    }

    private static void lessWetAtLeast0() {
        part = "less wet by what the day dries (at least 0)";
        PipeMoulds x = works(2, 8, 9);
        int[] table = {1, 0, 3, 3, 3, 0, 1};
        int[] wet = {5, 5, 2, 0, 0, 0, 0};
        for (int day = 0; day < 7; day++) {
            x.setDry(day, table[day]);
        }
        x.pass(1);
        x.place(0, -1);
        x.pack(0, 4, 1);
        for (int day = 1; day < 7; day++) {
            x.pass(1);
            int want = wet[day];
            due("a batch behind day " + day, want, () -> x.batch(0, 2));
            due("a saggar behind day " + day, want, () -> x.saggar(4, 2));
        }
        due("an empty saggar", 0, () -> x.saggar(3, 2));
    }

    private static void asManyWholePipesAsItIsFor() {
        part = "if there are as many whole pipes of its length as it is for, they go, its coins come in, it is served";
        PipeMoulds x = withWhole(5);
        x.order(8, 6, 9, 11);
        x.pass(1);
        due("6 of 5: served", 0, () -> x.count(10));
        due("6 of 5: waits", 1, () -> x.count(9));
        due("6 of 5: coins", 30, () -> x.count(3));
        due("6 of 5: store", 5, () -> x.store(8));
        PipeMoulds y = withWhole(5);
        y.order(8, 5, 9, 11);
        y.pass(1);
        due("5 of 5: served", 1, () -> y.count(10));
        due("5 of 5: waits no more", 0, () -> y.count(9));
        due("5 of 5: coins", 41, () -> y.count(3));
        due("5 of 5: store", 0, () -> y.store(8));
        PipeMoulds z = withWhole(5);
        z.order(7, 1, 9, 1);
        z.order(9, 1, 9, 1);
        z.order(8, 4, 9, 99);
        z.pass(1);
        due("4 of 5, and two of other lengths: served", 1, () -> z.count(10));
        due("4 of 5: coins", 129, () -> z.count(3));
        due("4 of 5: store", 1, () -> z.store(8));
    }

    private static void oneBehindTheOther() {
        part = "Orders, one behind the other";
        PipeMoulds x = withWhole(6);
        x.order(8, 4, 0, 10);
        x.order(8, 3, 0, 20);
        x.order(8, 2, 0, 40);
        x.pass(1);
        due("coins: the first takes 4, the third the other 2", 80, () -> x.count(3));
        due("lost: the second", 1, () -> x.count(11));
        PipeMoulds y = withWhole(8);
        for (int order = 0; order < 8; order++) {
            y.order(8, 1, 0, 1);
        }
        y.pass(1);
        due("all 8 in one day", 8, () -> y.count(10));
        due("coins", 38, () -> y.count(3));
        PipeMoulds z = new PipeMoulds();
        for (int order = 0; order < 8; order++) {
            z.order(8, 1, 0, 1);
        }
        z.pass(1);
        due("all 8 are lost in one day", 8, () -> z.count(11));
        due("none waits", 0, () -> z.count(9));
    }

    private static void lostWithLessThan0() {
        part = "otherwise it has a day less left; with less than 0 it is lost, and waits no more"
                + " (so one with 0 days left is looked at once more)";
        for (int days = 0; days <= 30; days++) {
            PipeMoulds x = new PipeMoulds();
            x.order(8, 1, days, 1);
            if (days > 0) {
                x.pass(days);
            }
            due("days left behind " + days, 0, () -> x.waits(0, 2));
            due("lost behind " + days, 0, () -> x.count(11));
            x.pass(1);
            due("waits behind one more", 0, () -> x.count(9));
            due("lost behind one more", 1, () -> x.count(11));
            due("coins", 30, () -> x.count(3));
        }
        PipeMoulds y = withWhole(1);
        y.order(8, 1, 0, 5);
        y.pass(1);
        due("one with 0 days left is served", 1, () -> y.count(10));
        PipeMoulds z = works(1, 8, 9);
        z.order(8, 1, 6, 5);
        z.pass(6);
        z.pack(0, 1, 1);
        z.fire(9);
        due("0 days left", 0, () -> z.waits(0, 2));
        z.pass(1);
        due("one whose 0 days came later is served", 1, () -> z.count(10));
    }

    private static void keepsNoPipesBack() {
        part = "One that can not be served keeps no pipes back from those behind it";
        PipeMoulds x = withWhole(5);
        x.order(8, 6, 9, 1);
        x.order(8, 5, 9, 2);
        x.pass(1);
        due("coins of the one behind", 32, () -> x.count(3));
        due("the one ahead waits", 6, () -> x.waits(0, 1));
        due("its days", 8, () -> x.waits(0, 2));
    }

    private static void theDayIsOneGreater() {
        part = "The day is 1 greater";
        PipeMoulds x = new PipeMoulds();
        due("on a new object", 0, () -> x.count(0));
        x.pass(1);
        due("behind a day", 1, () -> x.count(0));
        x.pass(40);
        due("behind 40 more", 41, () -> x.count(0));
    }

    // ---- a firing

    private static void eightForEachWet() {
        part = "Of a hundred of its pipes 8 for each by which they are wet break";
        int[] stems = {0, 1, 2, 3, 3, 4, 5};
        for (int wet = 0; wet <= 6; wet++) {
            PipeMoulds x = inSaggar(1, 9, 8, 0, wet);
            int want = stems[wet];
            due("breaks, wet by " + wet, want, () -> x.breaks(1, 9));
            due("fire, wet by " + wet, 9 - want, () -> x.fire(9));
        }
    }

    private static void twoForEachFlaw() {
        part = "2 for each of their flaw";
        int[] stems = {0, 1, 1, 1, 1, 1, 2, 2, 2, 2};
        for (int flaw = 0; flaw <= 9; flaw++) {
            PipeMoulds x = inSaggar(1, 9, 8, flaw, 0);
            int want = stems[flaw];
            due("breaks, flawed by " + flaw, want, () -> x.breaks(1, 9));
            due("fire, flawed by " + flaw, 9 - want, () -> x.fire(9));
        }
    }

    private static void halfOfTheDifference() {
        part = "half (cut) of how much 4 * coals differs from 20 + 2 * length";
        PipeMoulds x = inSaggar(1, 9, 8, 0, 0);
        // Coals, and stems of 9 with half of what 4 * coals differs from 36.
        int[][] eight = {{9, 0}, {8, 1}, {10, 1}, {4, 1}, {14, 1}, {3, 2}, {15, 2}, {1, 2}, {20, 2}, {21, 3}, {30, 4}};
        for (int[] of : eight) {
            due("breaks of length 8 with " + of[0], of[1], () -> x.breaks(1, of[0]));
        }
        PipeMoulds shortest = inSaggar(1, 9, 4, 0, 0);
        due("length 4 fits 7", 0, () -> shortest.breaks(1, 7));
        due("length 4 with 12: 10 of 9", 1, () -> shortest.breaks(1, 12));
        due("length 4 with 13: 12 of 9", 2, () -> shortest.breaks(1, 13));
        due("length 4 with 30: 46 of 9", 5, () -> shortest.breaks(1, 30));
        PipeMoulds longest = inSaggar(1, 9, 24, 0, 0);
        due("length 24 fits 17", 0, () -> longest.breaks(1, 17));
        due("length 24 with 12: 10 of 9", 1, () -> longest.breaks(1, 12));
        due("length 24 with 11: 12 of 9", 2, () -> longest.breaks(1, 11));
        due("length 24 with 1: 32 of 9", 3, () -> longest.breaks(1, 1));
        PipeMoulds odd = inSaggar(1, 9, 9, 0, 0);
        due("length 9 with 9: 1 of 9", 1, () -> odd.breaks(1, 9));
        due("length 9 with 10: 1 of 9", 1, () -> odd.breaks(1, 10));
        due("length 9 with 4: 11 of 9", 1, () -> odd.breaks(1, 4));
        due("length 9 with 3: 13 of 9", 2, () -> odd.breaks(1, 3));
    }

    private static void fiveInSaggars0And5() {
        part = "and 5 in the saggars 0 and 5, added";
        for (int saggar = 0; saggar < 6; saggar++) {
            int of = saggar;
            boolean isAtEnd = of == 0 || of == 5;
            PipeMoulds x = inSaggar(of, 9, 8, 0, 0);
            due("breaks(" + of + ", 9): 0 or 5 of 9", isAtEnd ? 1 : 0, () -> x.breaks(of, 9));
            due("breaks(" + of + ", 6): 6 or 11 of 9", 1, () -> x.breaks(of, 6));
            due("breaks(" + of + ", 13): 8 or 13 of 9", isAtEnd ? 2 : 1, () -> x.breaks(of, 13));
            due("breaks(" + of + ", 18): 18 or 23 of 9", isAtEnd ? 3 : 2, () -> x.breaks(of, 18));
            due("fire(9) with saggar " + of, isAtEnd ? 8 : 9, () -> x.fire(9));
        }
    }

    private static void atMost100() {
        part = "at most 100";
        PipeMoulds x = inSaggar(1, 9, 4, 9, 6);
        due("48 + 18 + 18: 84 of 9", 8, () -> x.breaks(1, 16));
        due("48 + 18 + 22: 88 of 9", 8, () -> x.breaks(1, 18));
        due("48 + 18 + 24: 90 of 9", 9, () -> x.breaks(1, 19));
        due("48 + 18 + 34: 100 of 9", 9, () -> x.breaks(1, 24));
        due("48 + 18 + 46: 112, 100 of 9", 9, () -> x.breaks(1, 30));
        x.buy(1, 10);
        due("fire(30): none is whole", 0, () -> x.fire(30));
        due("store(4)", 0, () -> x.store(4));
        due("stems", 9, () -> x.count(5));
        PipeMoulds y = inSaggar(0, 1, 4, 9, 6);
        due("48 + 18 + 46 + 5: 117, 100 of 1", 1, () -> y.breaks(0, 30));
    }

    private static void roundedUpForEachSaggarByItself() {
        part = "So many of a hundred of its pipes, rounded up for each saggar by itself, break";
        for (int pipes = 1; pipes <= 9; pipes++) {
            PipeMoulds x = inSaggar(1, pipes, 4, 2, 0);
            int half = pipes / 2 + pipes % 2;
            due("4 + 46: 50 of " + pipes, half, () -> x.breaks(1, 30));
            PipeMoulds z = inSaggar(1, pipes, 8, 0, 0);
            int fifth = pipes <= 5 ? 1 : 2;
            due("20 of " + pipes, fifth, () -> z.breaks(1, 19));
            due("0 of " + pipes, 0, () -> z.breaks(1, 9));
        }
        PipeMoulds y = works(4, 9, 9);
        y.pass(6);
        for (int saggar = 1; saggar <= 4; saggar++) {
            y.pack(0, saggar, 1);
        }
        due("1 of 1 in each of 4 saggars: one breaks in each", 0, () -> y.fire(9));
        due("stems", 4, () -> y.count(5));
    }

    private static void othersComeIntoTheStore() {
        part = "all others of it come into the store";
        PipeMoulds x = works(9, 4, 9);
        x.mould(24, 9);
        x.maker(9);
        x.place(1, 1);
        x.pass(1);
        x.place(0, -1);
        x.place(1, -1);
        x.pass(5);
        x.pack(0, 1, 9);
        x.pack(0, 2, 9);
        // With 12 coals 10 of a hundred of each.
        due("fire(12)", 16, () -> x.fire(12));
        due("store(4)", 8, () -> x.store(4));
        due("store(24)", 8, () -> x.store(24));
        due("pipes in the store", 16, () -> x.count(8));
        due("stems", 2, () -> x.count(5));
        for (int length = 5; length <= 23; length++) {
            int of = length;
            due("store(" + of + ")", 0, () -> x.store(of));
        }
    }

    private static void coalsAreBurntWhateverBreaks() {
        part = "The coals are burnt, whatever breaks";
        PipeMoulds x = inSaggar(0, 1, 4, 9, 6);
        due("fire(20), of 20: all break", 0, () -> x.fire(20));
        due("coals", 0, () -> x.count(2));
        PipeMoulds y = inSaggar(1, 9, 8, 0, 0);
        due("fire(9), of 20: none breaks", 9, () -> y.fire(9));
        due("coals", 11, () -> y.count(2));
        PipeMoulds z = inSaggar(1, 9, 8, 0, 0);
        z.fire(1);
        due("coals behind fire(1)", 19, () -> z.count(2));
    }

    // ---- the promises

    private static void aNewObject() {
        part = "promise 1: works without moulds and makers, on the day 0";
        PipeMoulds x = new PipeMoulds();
        fails("about(0, 0)", INDEX, x, () -> x.about(0, 0));
        fails("told(0, 0)", INDEX, x, () -> x.told(0, 0));
        fails("batch(0, 0)", INDEX, x, () -> x.batch(0, 0));
        fails("waits(0, 0)", INDEX, x, () -> x.waits(0, 0));
        due("the day", 0, () -> x.count(0));
        for (int what = 4; what <= 11; what++) {
            int of = what;
            due("count(" + of + ")", 0, () -> x.count(of));
        }
        due("pass(40)", 0, () -> x.pass(40));
    }

    private static void refitFor2Coins() {
        part = "promise 3: a new stopper that is tight by 9, for 2 coins";
        for (int stopper = 0; stopper <= 8; stopper++) {
            int of = stopper;
            PipeMoulds x = new PipeMoulds();
            x.mould(8, of);
            x.buy(1, 28);
            due("refit", of, () -> x.refit(0));
            due("coins", 0, () -> x.count(3));
            due("stopper", 9, () -> x.about(0, 1));
        }
    }

    private static void placeAnswersMinus1ForNone() {
        part = "promise 5: the mould before, -1 for none";
        PipeMoulds x = new PipeMoulds();
        x.maker(1);
        x.mould(8, 9);
        x.mould(8, 9);
        int[][] moves = {{0, -1}, {1, 0}, {-1, 1}, {-1, -1}, {0, -1}, {0, 0}};
        for (int[] of : moves) {
            due("place(0, " + of[0] + ")", of[1], () -> x.place(0, of[0]));
            due("told(0, 1)", of[0], () -> x.told(0, 1));
            due("about(0, 5)", of[0] == 0 ? 0 : -1, () -> x.about(0, 5));
            due("about(1, 5)", of[0] == 1 ? 0 : -1, () -> x.about(1, 5));
        }
    }

    private static void aCoinForEach4Pounds() {
        part = "promise 6: a coin for each 4 pounds, and for what is left of fewer, or coals, for a coin each";
        int[][] clay = {{1, 1}, {2, 1}, {3, 1}, {4, 1}, {5, 2}, {7, 2}, {8, 2}, {9, 3}, {99, 25}, {100, 25}, {101, 26},
            {119, 30}, {120, 30}};
        for (int[] of : clay) {
            PipeMoulds x = new PipeMoulds();
            due("buy(0, " + of[0] + ")", 200 + of[0], () -> x.buy(0, of[0]));
            due("coins", 30 - of[1], () -> x.count(3));
            due("coals", 20, () -> x.count(2));
        }
        for (int coals : new int[] {1, 2, 3, 4, 5, 29, 30}) {
            PipeMoulds x = new PipeMoulds();
            due("buy(1, " + coals + ")", 20 + coals, () -> x.buy(1, coals));
            due("coins", 30 - coals, () -> x.count(3));
            due("clay", 200, () -> x.count(1));
        }
    }

    private static void noneLeftGoes() {
        part = "promise 8: pipes of a batch, as wet as they are; a batch of which none are left goes";
        PipeMoulds x = works(3, 8, 6);
        x.pass(2);
        due("pack(0, 1, 2), one is left", 1, () -> x.pack(0, 1, 2));
        row("batch 0", new int[] {8, 1, 4, 3}, what -> x.batch(0, what));
        row("saggar 1", new int[] {8, 2, 4, 3}, what -> x.saggar(1, what));
        due("pack(0, 2, 1), none is left", 0, () -> x.pack(0, 2, 1));
        row("batch 0, the next", new int[] {8, 3, 5, 3}, what -> x.batch(0, what));
        fails("batch(1, 0)", INDEX, x, () -> x.batch(1, 0));
        due("pack(0, 3, 3), the last batch", 0, () -> x.pack(0, 3, 3));
        fails("batch(0, 0)", INDEX, x, () -> x.batch(0, 0));
        due("pipes on boards", 0, () -> x.count(6));
    }

    private static void allSaggarsAreEmptyThen() {
        part = "promise 9: all saggars are empty then";
        PipeMoulds x = works(6, 8, 4);
        x.pass(2);
        for (int saggar = 0; saggar < 6; saggar++) {
            x.pack(0, saggar, 1 + saggar % 3);
        }
        due("pipes in saggars", 12, () -> x.count(7));
        x.fire(3);
        for (int saggar = 0; saggar < 6; saggar++) {
            int of = saggar;
            row("saggar " + of, new int[4], what -> x.saggar(of, what));
        }
        due("pipes in saggars, then", 0, () -> x.count(7));
    }

    private static void all0ForAnEmptyOne() {
        part = "promise 14: all 0 for an empty one";
        for (int packed = 0; packed < 6; packed++) {
            PipeMoulds x = works(1, 8, 4);
            x.pass(1);
            x.pack(0, packed, 1);
            for (int saggar = 0; saggar < 6; saggar++) {
                int of = saggar;
                row("saggar " + of, of == packed ? new int[] {8, 1, 5, 5} : new int[4], what -> x.saggar(of, what));
            }
        }
    }

    private static void pipesThatAreMadeInThem() {
        part = "promise 18: how many pipes are made in them";
        PipeMoulds x = works(5, 8, 9);
        due("pass(1)", 5, () -> x.pass(1));
        due("pass(2), not those before", 10, () -> x.pass(2));
        due("pipes in all", 15, () -> x.count(4));
        due("pass(40), until the boards are full", 35, () -> x.pass(40));
        due("pass(40), on full boards", 0, () -> x.pass(40));
    }

    private static void breaksHoweverManyCoals() {
        part = "promise 19: with so many coals (however many there are; nothing is changed)";
        PipeMoulds x = inSaggar(1, 9, 8, 0, 0);
        due("breaks(1, 21) with 20 coals", 3, () -> x.breaks(1, 21));
        for (int saggar = 0; saggar < 6; saggar++) {
            if (saggar != 1) {
                int of = saggar;
                due("breaks of the empty saggar " + of, 0, () -> x.breaks(of, 30));
            }
        }
        x.fire(20);
        PipeMoulds y = works(9, 8, 9);
        y.pass(7);
        y.pack(0, 1, 9);
        y.fire(20);
        y.pack(0, 2, 9);
        due("breaks(2, 1) without coals", 2, () -> y.breaks(2, 1));
        due("breaks(2, 30) without coals", 4, () -> y.breaks(2, 30));
        due("coals", 0, () -> y.count(2));
        due("stems, not those that would break", 2, () -> y.count(5));
        due("pipes in saggars", 9, () -> y.count(7));
    }

    private static void adviseTheLeastOfSeveral() {
        part = "promise 20: with how many coals, 1 to 30, the fewest stems of all saggars would break now,"
                + " of several the least";
        // Of one wet pipe one breaks with any coals.
        due("all 30 alike", 1, () -> inSaggar(1, 1, 8, 0, 6).advise());
        due("9 alone is the best", 9, () -> inSaggar(1, 9, 8, 0, 0).advise());
        // In saggar 0 it is 5 to 11 of 9 with 6 to 12 coals.
        due("6 to 12 alike", 6, () -> inSaggar(0, 9, 8, 0, 0).advise());
        due("7 alone, for the shortest", 7, () -> inSaggar(1, 9, 4, 0, 0).advise());
        due("17 alone, for the longest", 17, () -> inSaggar(1, 9, 24, 0, 0).advise());
        due("4 to 15 alike, with 1 to 11 of 9", 4, () -> inSaggar(1, 9, 9, 0, 0).advise());
        due("1 is as good as 7: 20 of 5 is one", 1, () -> inSaggar(1, 5, 4, 0, 1).advise());
        due("1 is worse than 2: 22 and 20 of 5", 2, () -> inSaggar(1, 5, 4, 1, 1).advise());
        for (int saggar = 0; saggar < 6; saggar++) {
            // In saggars 0 and 5 it is 5 to 11 of 9 with 4 to 10 coals.
            int want = saggar == 0 || saggar == 5 ? 4 : 7;
            due("saggar " + saggar + " counts", want, withOneMore(saggar)::advise);
        }
    }

    /** 9 dry pipes of length 4 in this saggar, one of length 24 that breaks anyway in another. */
    private static PipeMoulds withOneMore(int saggar) {
        PipeMoulds x = works(9, 4, 9);
        x.mould(24, 0);
        x.maker(1);
        x.place(1, 1);
        x.pass(1);
        x.place(0, -1);
        x.place(1, -1);
        x.pass(5);
        x.pack(1, saggar == 3 ? 2 : 3, 1);
        x.pack(0, saggar, 9);
        return x;
    }

    private static void adviseMinus1IfAllAreEmpty() {
        part = "promise 20: -1 if all saggars are empty";
        PipeMoulds x = works(9, 8, 9);
        due("on a new object", -1, () -> new PipeMoulds().advise());
        x.pass(1);
        due("with a batch on the boards", -1, () -> x.advise());
        x.pack(0, 5, 1);
        due("with one pipe in saggar 5", 1, () -> x.advise());
        x.fire(1);
        due("when it is fired", -1, () -> x.advise());
    }

    private static void adviseHoweverManyCoals() {
        part = "promise 20: (however many there are)";
        PipeMoulds x = works(9, 24, 9);
        x.pass(6);
        x.place(0, -1);
        x.pass(6);
        x.pack(0, 1, 9);
        x.pack(0, 2, 1);
        due("with 20 coals", 17, () -> x.advise());
        x.fire(17);
        x.pack(0, 1, 8);
        due("with 3 coals", 17, () -> x.advise());
        x.pack(0, 2, 1);
        x.fire(3);
        due("coals", 0, () -> x.count(2));
        x.pack(0, 1, 8);
        due("without coals", 17, () -> x.advise());
    }

    private static void readyOneForTheComingDay() {
        part = "promise 21: behind how many days it is served, if nothing is done (1 for the coming one)";
        for (int days : new int[] {0, 1, 30}) {
            PipeMoulds x = withWhole(5);
            x.order(8, 5, days, 1);
            due("ready(0), 5 of 5, with " + days + " days", 1, () -> x.ready(0));
            x.pass(1);
            due("it was so", 1, () -> x.count(10));
        }
        PipeMoulds y = withWhole(8);
        for (int order = 0; order < 8; order++) {
            y.order(8, 1, 0, 1);
        }
        for (int place = 0; place < 8; place++) {
            int of = place;
            due("ready(" + of + "), 8 of 8", 1, () -> y.ready(of));
        }
    }

    private static void readyMinus1IfItIsLost() {
        part = "promise 21: -1 if it is lost";
        for (int days : new int[] {0, 1, 30}) {
            PipeMoulds x = withWhole(5);
            x.order(8, 6, days, 1);
            due("ready(0), 6 of 5, with " + days + " days", -1, () -> x.ready(0));
            x.order(8, 3, days, 1);
            x.order(8, 3, days, 1);
            x.order(8, 2, days, 1);
            due("ready(1), 3 of 5", 1, () -> x.ready(1));
            due("ready(2), 3 of the other 2", -1, () -> x.ready(2));
            due("ready(3), 2 of the other 2", 1, () -> x.ready(3));
            x.pass(40);
            due("it was so", 202, () -> x.count(10) * 100 + x.count(11));
        }
    }

    private static void foreseeAsItComes() {
        part = "promise 22: as count() has it, behind so many days, if nothing is done";
        for (int days : new int[] {1, 2, 7, 39, 40}) {
            PipeMoulds x = busy();
            PipeMoulds then = busy();
            then.pass(days);
            for (int what = 0; what < 12; what++) {
                int of = what;
                int want = then.count(of);
                due("foresee(" + days + ", " + of + ")", want, () -> x.foresee(days, of));
            }
        }
        PipeMoulds y = busy();
        due("the day behind 1", y.count(0) + 1, () -> y.foresee(1, 0));
        due("the day behind 40", y.count(0) + 40, () -> y.foresee(40, 0));
        due("stems that broke till now", y.count(5), () -> y.foresee(1, 5));
        for (int length : new int[] {4, 24}) {
            PipeMoulds z = inSaggar(1, 9, length, 0, 0);
            z.fire(length == 4 ? 7 : 17);
            z.order(length, 9, 0, 70);
            due("coins for 9 of length " + length, 100, () -> z.foresee(1, 3));
            due("store", 0, () -> z.foresee(1, 8));
            due("served", 1, () -> z.foresee(1, 10));
        }
    }

    /** Some of everything, with orders that will be served and lost. */
    private static PipeMoulds busy() {
        PipeMoulds x = inSaggar(0, 9, 8, 0, 0);
        for (int day = 0; day < 7; day++) {
            x.setDry(day, 1);
        }
        x.fire(9);
        x.mould(20, 5);
        x.maker(4);
        x.place(0, 0);
        x.place(1, 1);
        x.setDry(3, 3);
        x.setDry(5, 0);
        x.pass(2);
        x.pack(1, 0, 3);
        x.pack(0, 4, 9);
        x.order(8, 10, 1, 7);
        x.order(8, 4, 30, 9);
        x.order(8, 6, 3, 11);
        x.order(20, 1, 30, 13);
        return x;
    }

    private static void theAskingChangesNothing() {
        part = "promises 11 to 17 and 19 to 24: (nothing is changed)";
        PipeMoulds x = busy();
        PipeMoulds twin = busy();
        long before = x.digest();
        for (int place = 0; place < 4; place++) {
            x.ready(place);
            x.waits(place, place);
        }
        for (int days = 1; days <= 40; days++) {
            x.foresee(days, days % 12);
        }
        for (int coals = 1; coals <= 30; coals++) {
            x.breaks(coals % 6, coals);
        }
        x.advise();
        x.mean();
        x.about(0, 3);
        x.told(0, 1);
        x.batch(0, 2);
        x.saggar(0, 1);
        x.store(8);
        due("digest()", before, () -> x.digest());
        for (int day = 0; day < 35; day++) {
            x.ready(x.count(9) - 1);
            long want = twin.pass(1);
            due("pass(1) of day " + day, want, () -> x.pass(1));
            long then = twin.digest();
            due("digest() of day " + day, then, () -> x.digest());
            if (x.count(9) == 0) {
                break;
            }
        }
    }

    private static void meanIs0WithoutAny() {
        part = "promise 23: the mean flaw of all pipes on boards; 0 without any";
        dueDouble("on a new object", 0.0, () -> new PipeMoulds().mean());
        PipeMoulds x = works(2, 8, 2);
        x.pass(1);
        dueDouble("of 2 pipes", 7.0, () -> x.mean());
        x.pack(0, 0, 1);
        dueDouble("of 1 pipe", 7.0, () -> x.mean());
        x.pack(0, 1, 1);
        dueDouble("without any, but 2 in saggars", 0.0, () -> x.mean());
        PipeMoulds y = works(9, 8, 9);
        y.pass(1);
        dueDouble("of 9 without a flaw", 0.0, () -> y.mean());
        y.mould(8, 0);
        y.maker(1);
        y.place(0, -1);
        y.place(1, 1);
        y.pass(1);
        dueDouble("of 9 with 0 and 1 with 9", 0.9, () -> y.mean());
        PipeMoulds all = works(9, 8, 0);
        all.pass(40);
        dueDouble("of 10 batches: 4 * 9, 3 * 10, 3 * 11", (36 + 30 + 33) / 10.0, () -> all.mean());
    }

    private static void digestWrapsAround() {
        part = "promise 24: d becomes d * 31 + x, which wraps around as a 64-bit integer";
        PipeMoulds x = new PipeMoulds();
        List<Integer> numbers = new ArrayList<>(List.of(0, 200, 20, 30, 0, 0, 0, 0, 0, 0, 0, 0));
        for (int day = 0; day < 7; day++) {
            numbers.add(1);
        }
        for (int zeros = 0; zeros < 6 * 4 + 21; zeros++) {
            numbers.add(0);
        }
        due("digest() of a new object", wrapped(numbers), () -> x.digest());
        // Two more coals and one coin less change d by 2 * 31^61 - 31^60, far behind 64 bits.
        x.buy(1, 1);
        numbers.set(2, 21);
        numbers.set(3, 29);
        due("digest() with 21 coals and 29 coins", wrapped(numbers), () -> x.digest());
        boolean[] signs = new boolean[2];
        for (int buying = 0; buying < 29; buying++) {
            x.buy(1, 1);
            signs[x.digest() < 0 ? 1 : 0] = true;
        }
        due("d is below 0 now and then, and above it", 2, () -> (signs[0] ? 1 : 0) + (signs[1] ? 1 : 0));
    }

    /** The checksum without any bound, of which the low 64 bits are taken in the end. */
    private static long wrapped(List<Integer> numbers) {
        BigInteger d = BigInteger.valueOf(1423);
        for (int x : numbers) {
            d = d.multiply(BigInteger.valueOf(31)).add(BigInteger.valueOf(x));
        }
        return d.longValue();
    }

    private static void digestOfThingsAndTheirOrder() {
        part = "promise 24: for each mould, maker, batch, saggar, length and order, all in their order";
        PipeMoulds x = busy();
        List<Integer> numbers = new ArrayList<>();
        for (int what = 0; what < 12; what++) {
            numbers.add(x.count(what));
        }
        numbers.addAll(List.of(1, 1, 1, 3, 1, 0, 1));
        for (int cell = 0; cell < 2 * 6; cell++) {
            numbers.add(x.about(cell / 6, cell % 6));
        }
        for (int cell = 0; cell < 2 * 2; cell++) {
            numbers.add(x.told(cell / 2, cell % 2));
        }
        for (int cell = 0; cell < 3 * 4; cell++) {
            numbers.add(x.batch(cell / 4, cell % 4));
        }
        for (int cell = 0; cell < 6 * 4; cell++) {
            numbers.add(x.saggar(cell / 4, cell % 4));
        }
        for (int length = 4; length <= 24; length++) {
            numbers.add(x.store(length));
        }
        for (int cell = 0; cell < 4 * 4; cell++) {
            numbers.add(x.waits(cell / 4, cell % 4));
        }
        due("digest()", wrapped(numbers), () -> x.digest());
        x.place(1, -1);
        numbers.set(12 + 7 + 6 + 5, -1);
        numbers.set(12 + 7 + 12 + 3, -1);
        due("digest() with two that are -1", wrapped(numbers), () -> x.digest());
    }
}
