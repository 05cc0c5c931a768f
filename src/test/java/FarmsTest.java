/** Promises 1 to 7, sentence by sentence. */
public final class FarmsTest {
    private static final int[] MILK_OF_TWENTY = {15, 16, 17, 18, 19, 20, 19, 18, 17, 16};
    private static final int[] MILK_OF_EIGHT = {5, 5, 5, 6, 7, 8, 7, 6, 5, 5};

    public static void main(String[] args) throws Exception {
        Sentences.ofPromises(FarmsTest.class, 1, 7);
    }

    /** A farm with a tank and a cow. */
    private static MilkRound dairyWith(int room, int best) {
        MilkRound dairy = new MilkRound();
        dairy.addFarm(room);
        dairy.addCow(0, best);
        return dairy;
    }

    // ---- promise 1

    @Sentence(of = "Promise 1", says = "Creates a dairy without farms and vats, on the day 0.")
    private static void newDairyIsEmpty() {
        MilkRound dairy = new MilkRound();
        Check.due("day()", 0, dairy.day());
        Check.noIndex(dairy, "inTank(0)", () -> dairy.inTank(0));
        Check.noIndex(dairy, "inVat(0)", () -> dairy.inVat(0));
        Check.due("samples()", 0, dairy.samples());
        Check.due("batches()", 0, dairy.batches());
        Check.due("inTanker()", 0, dairy.inTanker());
        Check.due("pass(30)", 0, dairy.pass(30));
        Check.due("addFarm(10)", 0, dairy.addFarm(10));
        Check.due("addVat(100)", 0, dairy.addVat(100));
        Check.due("beginRound()", 1, dairy.beginRound());
    }

    @Sentence(of = "Promise 1", says = "Creates a dairy without farms and vats, on the day 0.")
    private static void newDairyBesideAnother() {
        MilkRound other = Dairies.withBatch(50, 60);
        other.beginRound();
        MilkRound dairy = new MilkRound();
        Check.due("day()", 0, dairy.day());
        Check.noIndex(dairy, "inTank(0)", () -> dairy.inTank(0));
        Check.noIndex(dairy, "inVat(0)", () -> dairy.inVat(0));
        Check.noIndex(dairy, "farmOf(0)", () -> dairy.farmOf(0));
        Check.noIndex(dairy, "stateOf(0)", () -> dairy.stateOf(0));
        Check.due("beginRound()", 1, dairy.beginRound());
        dairy.addFarm(10);
        dairy.pass(7);
        Check.due("day() of the other", 30, other.day());
        Check.due("samples() of the other", 2, other.samples());
        Check.due("addFarm(10) of the other", 2, other.addFarm(10));
    }

    // ---- promise 2

    @Sentence(of = "Promise 2", says = "Adds a farm with an empty tank, without cows.")
    private static void newFarmIsEmpty() {
        MilkRound dairy = dairyWith(100, 20);
        dairy.pass(4);
        dairy.addFarm(100);
        Check.due("inTank(1)", 0, dairy.inTank(1));
        Check.due("milkOf(1, 5)", 0, dairy.milkOf(1, 5));
        dairy.pass(1);
        Check.due("inTank(1) a day later", 0, dairy.inTank(1));
        Check.due("addCow(1, 5)", 1, dairy.addCow(1, 5));
    }

    @Sentence(of = "Promise 2", says = "`room`: how many litres its tank holds, 10 to 200")
    private static void roomOfATank() {
        for (int room : new int[] {10, 11, 100, 127, 128, 199, 200}) {
            MilkRound dairy = Dairies.withFullTanks(room);
            Check.due("inTank(0), with room for " + room, room, dairy.inTank(0));
            Check.due("pass(1), with room for " + room, 26, dairy.pass(1));
        }
    }

    @Sentence(of = "Promise 2", says = "`room`: how many litres its tank holds, 10 to 200")
    private static void eachTankHasItsRoom() {
        MilkRound dairy = Dairies.withFullTanks(10, 200, 30, 40, 50, 60);
        int[] rooms = {10, 200, 30, 40, 50, 60};
        for (int farm = 0; farm < 6; farm++) {
            Check.due("inTank(" + farm + ")", rooms[farm], dairy.inTank(farm));
        }
    }

    @Sentence(of = "Promise 2", says = "Returns the number of the farm.")
    private static void numbersOfFarms() {
        MilkRound dairy = new MilkRound();
        for (int farm = 0; farm < 6; farm++) {
            Check.due("addFarm(200)", farm, dairy.addFarm(200));
        }
    }

    @Sentence(of = "Promise 2", says = "Throws `IllegalArgumentException` if the number is out of range")
    private static void roomOutOfRange() {
        MilkRound dairy = new MilkRound();
        for (int room : Dairies.outside(10, 200)) {
            Check.badArgument(dairy, "addFarm(" + room + ")", () -> dairy.addFarm(room));
        }
        Check.due("addFarm(10) after them", 0, dairy.addFarm(10));
    }

    @Sentence(of = "Promise 2", says = "Throws `IllegalStateException` if there are 6 farms")
    private static void seventhFarm() {
        MilkRound dairy = new MilkRound();
        for (int farm = 0; farm < 5; farm++) {
            dairy.addFarm(50);
        }
        Check.due("addFarm(50), the sixth", 5, dairy.addFarm(50));
        Check.badState(dairy, "addFarm(10), a seventh", () -> dairy.addFarm(10));
        Check.badState(dairy, "addFarm(200), a seventh", () -> dairy.addFarm(200));
        Check.noIndex(dairy, "inTank(6)", () -> dairy.inTank(6));
    }

    // ---- promise 3

    @Sentence(of = "Promise 3", says = "Adds a cow to a farm.")
    private static void cowOfAFarm() {
        MilkRound dairy = dairyWith(200, 20);
        dairy.addFarm(200);
        dairy.pass(5);
        int before = dairy.inTank(0);
        dairy.addCow(0, 30);
        Check.due("milkOf(0, 5)", 50, dairy.milkOf(0, 5));
        Check.due("milkOf(1, 5), of the farm beside it", 0, dairy.milkOf(1, 5));
        Check.due("inTank(0), of the days before", before, dairy.inTank(0));
        dairy.pass(1);
        Check.due("inTank(0) on day 6", before + 19 + 29, dairy.inTank(0));
    }

    @Sentence(of = "Promise 3", says = "`best`: its best, 5 to 30")
    private static void bestOfACow() {
        for (int best = 5; best <= 30; best++) {
            Check.due("milkOf(0, 5), of the best " + best, best, dairyWith(10, best).milkOf(0, 5));
        }
    }

    @Sentence(of = "Promise 3", says = "Returns the number of cows of the farm.")
    private static void numbersOfCows() {
        MilkRound dairy = new MilkRound();
        dairy.addFarm(10);
        dairy.addFarm(10);
        for (int cows = 1; cows <= 5; cows++) {
            Check.due("addCow(0, 5)", cows, dairy.addCow(0, 5));
        }
        for (int cows = 1; cows <= 5; cows++) {
            Check.due("addCow(1, 30)", cows, dairy.addCow(1, 30));
        }
    }

    @Sentence(of = "Promise 3", says = "Throws `IndexOutOfBoundsException` if there is no such farm")
    private static void cowOfNoFarm() {
        MilkRound dairy = new MilkRound();
        Check.noIndex(dairy, "addCow(0, 20) without farms", () -> dairy.addCow(0, 20));
        dairy.addFarm(100);
        dairy.addFarm(100);
        for (int farm : Dairies.outside(0, 1)) {
            Check.noIndex(dairy, "addCow(" + farm + ", 20)", () -> dairy.addCow(farm, 20));
        }
        Check.due("addCow(1, 20)", 1, dairy.addCow(1, 20));
        Check.due("addCow(0, 20)", 1, dairy.addCow(0, 20));
    }

    @Sentence(of = "Promise 3", says = "Throws `IndexOutOfBoundsException` if there is no such farm")
    private static void cowOfASeventhFarm() {
        MilkRound dairy = Dairies.withFarms(6);
        Check.noIndex(dairy, "addCow(6, 20)", () -> dairy.addCow(6, 20));
        Check.noIndex(dairy, "addCow(-1, 20)", () -> dairy.addCow(-1, 20));
        Check.due("addCow(5, 20)", 2, dairy.addCow(5, 20));
    }

    @Sentence(of = "Promise 3", says = "Throws `IllegalArgumentException` if the number is out of range")
    private static void bestOutOfRange() {
        MilkRound dairy = new MilkRound();
        dairy.addFarm(100);
        for (int best : Dairies.outside(5, 30)) {
            Check.badArgument(dairy, "addCow(0, " + best + ")", () -> dairy.addCow(0, best));
        }
        Check.due("milkOf(0, 5) after them", 0, dairy.milkOf(0, 5));
        Check.due("addCow(0, 5) after them", 1, dairy.addCow(0, 5));
    }

    @Sentence(of = "Promise 3", says = "Throws `IllegalStateException` if the farm has 5 cows")
    private static void sixthCow() {
        MilkRound dairy = new MilkRound();
        dairy.addFarm(100);
        dairy.addFarm(100);
        for (int cow = 0; cow < 4; cow++) {
            dairy.addCow(0, 10);
        }
        Check.due("addCow(0, 10), the fifth", 5, dairy.addCow(0, 10));
        Check.badState(dairy, "addCow(0, 5), a sixth", () -> dairy.addCow(0, 5));
        Check.badState(dairy, "addCow(0, 30), a sixth", () -> dairy.addCow(0, 30));
        Check.due("milkOf(0, 5) of five", 50, dairy.milkOf(0, 5));
        Check.due("addCow(1, 10), the first of the other farm", 1, dairy.addCow(1, 10));
    }

    // ---- promise 4

    @Sentence(of = "Promise 4", says = "Returns how much all cows of a farm give on a day, whatever room there is.")
    private static void milkWhateverRoom() {
        MilkRound dairy = new MilkRound();
        dairy.addFarm(10);
        Check.due("milkOf(0, 5) without cows", 0, dairy.milkOf(0, 5));
        for (int cow = 1; cow <= 5; cow++) {
            dairy.addCow(0, 30);
            Check.due("milkOf(0, 5), more than there is room for", 30 * cow, dairy.milkOf(0, 5));
        }
        dairy.pass(30);
        Check.due("inTank(0), full", 10, dairy.inTank(0));
        Check.due("milkOf(0, 5) of a full tank", 150, dairy.milkOf(0, 5));
    }

    @Sentence(of = "Promise 4", says = "Returns how much all cows of a farm give on a day, whatever room there is.")
    private static void milkOfAllCows() {
        MilkRound dairy = dairyWith(10, 20);
        dairy.addFarm(200);
        dairy.addCow(0, 8);
        dairy.addCow(1, 5);
        for (int day = 0; day < 30; day++) {
            int due = MILK_OF_TWENTY[day % 10] + MILK_OF_EIGHT[day % 10];
            Check.due("milkOf(0, " + day + ")", due, dairy.milkOf(0, day));
            Check.due("milkOf(1, " + day + ")", 5, dairy.milkOf(1, day));
        }
    }

    @Sentence(of = "Promise 4", says = "`day`: the day, 0 to 999")
    private static void firstAndLastDay() {
        MilkRound dairy = dairyWith(10, 20);
        Check.due("milkOf(0, 0)", 15, dairy.milkOf(0, 0));
        Check.due("milkOf(0, 1)", 16, dairy.milkOf(0, 1));
        Check.due("milkOf(0, 998)", 17, dairy.milkOf(0, 998));
        Check.due("milkOf(0, 999)", 16, dairy.milkOf(0, 999));
        dairy.pass(13);
        Check.due("milkOf(0, 0), of a day that is over", 15, dairy.milkOf(0, 0));
        Check.due("milkOf(0, 999), of a day to come", 16, dairy.milkOf(0, 999));
    }

    @Sentence(of = "Promise 4", says = "Returns the litres.")
    private static void milkOfEachDay() {
        for (int from = 0; from < 1000; from += 250) {
            MilkRound dairy = dairyWith(10, 20);
            for (int day = from; day < from + 250; day++) {
                Check.due("milkOf(0, " + day + ")", MILK_OF_TWENTY[day % 10], dairy.milkOf(0, day));
            }
        }
    }

    @Sentence(of = "Promise 4", says = "Throws `IndexOutOfBoundsException` if there is no such farm")
    private static void milkOfNoFarm() {
        MilkRound dairy = new MilkRound();
        Check.noIndex(dairy, "milkOf(0, 0) without farms", () -> dairy.milkOf(0, 0));
        dairy.addFarm(10);
        dairy.addFarm(10);
        for (int farm : Dairies.outside(0, 1)) {
            Check.noIndex(dairy, "milkOf(" + farm + ", 0)", () -> dairy.milkOf(farm, 0));
        }
        MilkRound full = Dairies.withFarms(6);
        Check.noIndex(full, "milkOf(6, 0) of six farms", () -> full.milkOf(6, 0));
        Check.due("milkOf(5, 0) of six farms", 5, full.milkOf(5, 0));
    }

    @Sentence(of = "Promise 4", says = "Throws `IllegalArgumentException` if the day is out of range")
    private static void milkOfNoDay() {
        MilkRound dairy = dairyWith(10, 30);
        for (int day : Dairies.outside(0, 999)) {
            Check.badArgument(dairy, "milkOf(0, " + day + ")", () -> dairy.milkOf(0, day));
        }
    }

    // ---- promise 5

    @Sentence(of = "Promise 5", says = "Returns how much is in the tank of a farm.")
    private static void tankOverDaysAndVisits() {
        MilkRound dairy = dairyWith(200, 20);
        dairy.addFarm(30);
        dairy.addCow(1, 20);
        Check.due("inTank(0) on day 0", 0, dairy.inTank(0));
        dairy.pass(1);
        Check.due("inTank(0) on day 1", 16, dairy.inTank(0));
        dairy.pass(1);
        Check.due("inTank(0) on day 2", 33, dairy.inTank(0));
        Check.due("inTank(1), full", 30, dairy.inTank(1));
        dairy.beginRound();
        dairy.visit(0);
        Check.due("inTank(0) after a visit", 0, dairy.inTank(0));
        Check.due("inTank(1) without a visit", 30, dairy.inTank(1));
    }

    @Sentence(of = "Promise 5", says = "Returns the litres.")
    private static void tankEmptyFullAndBetween() {
        MilkRound dairy = Dairies.withFullTanks(200, 150, 51);
        Check.due("inTank(0), full", 200, dairy.inTank(0));
        dairy.beginRound();
        dairy.visit(0);
        dairy.visit(1);
        dairy.visit(2);
        Check.due("inTank(0), emptied", 0, dairy.inTank(0));
        Check.due("inTank(2), 1 litre too much for the tanker", 1, dairy.inTank(2));
    }

    @Sentence(of = "Promise 5", says = "Throws `IndexOutOfBoundsException` if there is no such farm")
    private static void tankOfNoFarm() {
        MilkRound dairy = new MilkRound();
        Check.noIndex(dairy, "inTank(0) without farms", () -> dairy.inTank(0));
        dairy.addFarm(200);
        dairy.addFarm(200);
        for (int farm : Dairies.outside(0, 1)) {
            Check.noIndex(dairy, "inTank(" + farm + ")", () -> dairy.inTank(farm));
        }
        MilkRound full = Dairies.withFarms(6);
        Check.noIndex(full, "inTank(6) of six farms", () -> full.inTank(6));
        Check.due("inTank(5) of six farms", 5, full.inTank(5));
    }

    // ---- promise 6

    @Sentence(of = "Promise 6", says = "Lets days pass.")
    private static void daysAtOnceAndOneByOne() {
        for (int days = 1; days <= 30; days++) {
            MilkRound atOnce = dairyWith(190, 11);
            MilkRound oneByOne = dairyWith(190, 11);
            int poured = 0;
            for (int day = 0; day < days; day++) {
                poured += oneByOne.pass(1);
            }
            Check.due("pass(" + days + ")", poured, atOnce.pass(days));
            Check.due("day() after it", days, atOnce.day());
            Check.due("inTank(0) after it", oneByOne.inTank(0), atOnce.inTank(0));
        }
    }

    @Sentence(of = "Promise 6", says = "`days`: the number of days, 1 to 30")
    private static void fewestAndMostDays() {
        MilkRound dairy = new MilkRound();
        Check.due("pass(1)", 0, dairy.pass(1));
        Check.due("day() after 1", 1, dairy.day());
        Check.due("pass(30)", 0, dairy.pass(30));
        Check.due("day() after 30 more", 31, dairy.day());
    }

    @Sentence(of = "Promise 6", says = "Returns how many litres were poured away.")
    private static void pouredAway() {
        MilkRound dairy = dairyWith(34, 20);
        Check.due("pass(1), day 1, all is kept", 0, dairy.pass(1));
        Check.due("pass(1), day 2, 1 litre of room is left", 0, dairy.pass(1));
        Check.due("pass(1), day 3, all but 1", 17, dairy.pass(1));
        Check.due("pass(1), day 4, all", 19, dairy.pass(1));
        Check.due("inTank(0), full", 34, dairy.inTank(0));
        MilkRound exact = dairyWith(33, 20);
        Check.due("pass(2), just full", 0, exact.pass(2));
        MilkRound over = dairyWith(32, 20);
        Check.due("pass(2), 1 litre too much", 1, over.pass(2));
    }

    @Sentence(of = "Promise 6", says = "Returns how many litres were poured away.")
    private static void pouredAwayOverFarmsAndDays() {
        MilkRound dairy = dairyWith(40, 20);
        dairy.addFarm(10);
        dairy.addCow(1, 6);
        dairy.addFarm(200);
        Check.due("pass(3), of the farms 0 and 1", 16 + 17 + 18 - 40 + 5, dairy.pass(3));
        Check.due("inTank(0), full", 40, dairy.inTank(0));
        Check.due("inTank(1), full", 10, dairy.inTank(1));
        Check.due("inTank(2), without cows", 0, dairy.inTank(2));
        dairy.beginRound();
        dairy.visit(0);
        Check.due("pass(1), day 4, with an emptied tank", 5, dairy.pass(1));
        Check.due("inTank(0) after the day 4", 19, dairy.inTank(0));
        Check.due("pass(3), the days 5 to 7, room for 21", 20 + 19 + 18 - 21 + 6 + 5 + 5, dairy.pass(3));
        MilkRound without = new MilkRound();
        Check.due("pass(30) without farms", 0, without.pass(30));
    }

    @Sentence(of = "Promise 6", says = "Throws `IllegalArgumentException` if the number is out of range, "
            + "or the day would be greater than 999")
    private static void daysOutOfRange() {
        MilkRound dairy = dairyWith(200, 20);
        dairy.pass(2);
        for (int days : Dairies.outside(1, 30)) {
            Check.badArgument(dairy, "pass(" + days + ")", () -> dairy.pass(days));
        }
        Check.due("day() after them", 2, dairy.day());
        Check.due("inTank(0) after them", 33, dairy.inTank(0));
    }

    @Sentence(of = "Promise 6", says = "Throws `IllegalArgumentException` if the number is out of range, "
            + "or the day would be greater than 999")
    private static void dayBeyondTheLast() {
        MilkRound dairy = new MilkRound();
        for (int times = 0; times < 32; times++) {
            dairy.pass(30);
        }
        dairy.addFarm(200);
        dairy.addCow(0, 5);
        Check.due("pass(10), to day 970", 0, dairy.pass(10));
        Check.badArgument(dairy, "pass(30) on day 970", () -> dairy.pass(30));
        Check.due("pass(20), to day 990", 0, dairy.pass(20));
        Check.badArgument(dairy, "pass(10) on day 990", () -> dairy.pass(10));
        Check.due("inTank(0) on day 990", 150, dairy.inTank(0));
        Check.due("pass(9), to day 999", 0, dairy.pass(9));
        Check.due("day() at the last", 999, dairy.day());
        Check.badArgument(dairy, "pass(1) on day 999", () -> dairy.pass(1));
        Check.badArgument(dairy, "pass(Integer.MAX_VALUE) on day 999", () -> dairy.pass(Integer.MAX_VALUE));
        Check.due("inTank(0) on day 999", 195, dairy.inTank(0));
    }

    @Sentence(of = "Promise 6", says = "Throws `IllegalArgumentException` if the number is out of range, "
            + "or the day would be greater than 999")
    private static void thirtyDaysToTheLast() {
        MilkRound dairy = new MilkRound();
        for (int times = 0; times < 32; times++) {
            dairy.pass(30);
        }
        dairy.pass(9);
        Check.due("pass(30) on day 969", 0, dairy.pass(30));
        Check.due("day()", 999, dairy.day());
    }

    // ---- promise 7

    @Sentence(of = "Promise 7", says = "Returns the day.")
    private static void dayFromTheFirstToTheLast() {
        MilkRound dairy = Dairies.withFarms(2);
        dairy.addVat(900);
        Check.due("day()", 1, dairy.day());
        dairy.pass(30);
        Check.due("day() after 30 more", 31, dairy.day());
        Dairies.collect(dairy, 2, 0);
        dairy.close(0);
        dairy.grade(0, 'a');
        Check.due("day() after a round, a close and a grade", 31, dairy.day());
        for (int times = 0; times < 32; times++) {
            dairy.pass(30);
        }
        dairy.pass(8);
        Check.due("day(), the last", 999, dairy.day());
    }
}
