/** Promises 1 to 7. */
public final class FarmsTest {
    public static void main(String[] args) {
        newObject();
        addFarm();
        addCow();
        milkOf();
        milkOfEachDay();
        inTank();
        pass();
        passUpToTheLastDay();
        day();
        Check.end();
    }

    private static void newObject() {
        MilkRound dairy = new MilkRound();
        Check.due("1 day()", 0, dairy.day());
        Check.due("1 samples()", 0, dairy.samples());
        Check.due("1 batches()", 0, dairy.batches());
        Check.due("1 inTanker()", 0, dairy.inTanker());
        Check.refused(dairy, "1 inTank(0)", IndexOutOfBoundsException.class, () -> dairy.inTank(0));
        Check.refused(dairy, "1 inVat(0)", IndexOutOfBoundsException.class, () -> dairy.inVat(0));
        Check.due("1 pass(30) without farms", 0, dairy.pass(30));
        MilkRound other = new MilkRound();
        other.addFarm(10);
        Check.refused(dairy, "1 inTank(0) beside another dairy", IndexOutOfBoundsException.class,
                () -> dairy.inTank(0));
    }

    private static void addFarm() {
        MilkRound dairy = new MilkRound();
        for (int room : new int[] {9, 0, -1, 201, Integer.MIN_VALUE, Integer.MAX_VALUE}) {
            Check.refused(dairy, "2 addFarm(" + room + ")", IllegalArgumentException.class, () -> dairy.addFarm(room));
        }
        Check.due("2 addFarm(10)", 0, dairy.addFarm(10));
        Check.due("2 addFarm(200)", 1, dairy.addFarm(200));
        Check.due("2 inTank(1)", 0, dairy.inTank(1));
        Check.due("2 milkOf(1, 5) without cows", 0, dairy.milkOf(1, 5));
        for (int farm = 2; farm < 6; farm++) {
            Check.due("2 addFarm(50)", farm, dairy.addFarm(50));
        }
        Check.refused(dairy, "2 addFarm(50), a seventh", IllegalStateException.class, () -> dairy.addFarm(50));
        Check.refused(dairy, "2 addFarm(9), a seventh", IllegalArgumentException.class, () -> dairy.addFarm(9));
    }

    private static void addCow() {
        MilkRound dairy = new MilkRound();
        Check.refused(dairy, "3 addCow(0, 20)", IndexOutOfBoundsException.class, () -> dairy.addCow(0, 20));
        dairy.addFarm(100);
        dairy.addFarm(100);
        for (int farm : new int[] {-1, 2, 6, Integer.MIN_VALUE, Integer.MAX_VALUE}) {
            Check.refused(dairy, "3 addCow(" + farm + ", 4)", IndexOutOfBoundsException.class,
                    () -> dairy.addCow(farm, 4));
        }
        for (int best : new int[] {4, 0, -5, 31, Integer.MIN_VALUE, Integer.MAX_VALUE}) {
            Check.refused(dairy, "3 addCow(0, " + best + ")", IllegalArgumentException.class,
                    () -> dairy.addCow(0, best));
        }
        Check.due("3 addCow(0, 5)", 1, dairy.addCow(0, 5));
        Check.due("3 addCow(0, 30)", 2, dairy.addCow(0, 30));
        Check.due("3 addCow(1, 30)", 1, dairy.addCow(1, 30));
        for (int cows = 3; cows <= 5; cows++) {
            Check.due("3 addCow(0, 6)", cows, dairy.addCow(0, 6));
        }
        Check.refused(dairy, "3 addCow(0, 6), a sixth", IllegalStateException.class, () -> dairy.addCow(0, 6));
        Check.refused(dairy, "3 addCow(0, 31), a sixth", IllegalArgumentException.class, () -> dairy.addCow(0, 31));
        Check.due("3 addCow(1, 7)", 2, dairy.addCow(1, 7));
    }

    private static void milkOf() {
        MilkRound dairy = new MilkRound();
        Check.refused(dairy, "4 milkOf(0, 0)", IndexOutOfBoundsException.class, () -> dairy.milkOf(0, 0));
        dairy.addFarm(10);
        dairy.addCow(0, 30);
        dairy.addCow(0, 12);
        for (int day : new int[] {-1, 1000, Integer.MIN_VALUE, Integer.MAX_VALUE}) {
            Check.refused(dairy, "4 milkOf(0, " + day + ")", IllegalArgumentException.class,
                    () -> dairy.milkOf(0, day));
            Check.refused(dairy, "4 milkOf(1, " + day + ")", IndexOutOfBoundsException.class,
                    () -> dairy.milkOf(1, day));
        }
        Check.refused(dairy, "4 milkOf(-1, 0)", IndexOutOfBoundsException.class, () -> dairy.milkOf(-1, 0));
        Check.due("4 milkOf(0, 0), more than there is room for", 32, dairy.milkOf(0, 0));
        Check.due("4 milkOf(0, 999)", 34, dairy.milkOf(0, 999));
        dairy.pass(3);
        Check.due("4 milkOf(0, 0) of a day that is over", 32, dairy.milkOf(0, 0));
    }

    private static void milkOfEachDay() {
        MilkRound dairy = new MilkRound();
        dairy.addFarm(200);
        dairy.addFarm(200);
        dairy.addFarm(200);
        dairy.addCow(0, 20);
        dairy.addCow(1, 8);
        dairy.addCow(2, 5);
        int[] ofTwenty = {15, 16, 17, 18, 19, 20, 19, 18, 17, 16};
        int[] ofEight = {5, 5, 5, 6, 7, 8, 7, 6, 5, 5};
        for (int day = 0; day < 30; day++) {
            Check.due("4 milkOf(0, " + day + ")", ofTwenty[day % 10], dairy.milkOf(0, day));
            Check.due("4 milkOf(1, " + day + ")", ofEight[day % 10], dairy.milkOf(1, day));
            Check.due("4 milkOf(2, " + day + ")", 5, dairy.milkOf(2, day));
        }
    }

    private static void inTank() {
        MilkRound dairy = new MilkRound();
        Check.refused(dairy, "5 inTank(0)", IndexOutOfBoundsException.class, () -> dairy.inTank(0));
        dairy.addFarm(200);
        dairy.addFarm(30);
        dairy.addCow(0, 20);
        dairy.addCow(1, 20);
        Check.refused(dairy, "5 inTank(-1)", IndexOutOfBoundsException.class, () -> dairy.inTank(-1));
        Check.refused(dairy, "5 inTank(2)", IndexOutOfBoundsException.class, () -> dairy.inTank(2));
        Check.due("5 inTank(0) on day 0", 0, dairy.inTank(0));
        dairy.pass(1);
        Check.due("5 inTank(0) on day 1", 16, dairy.inTank(0));
        dairy.pass(1);
        Check.due("5 inTank(0) on day 2", 33, dairy.inTank(0));
        Check.due("5 inTank(1), full", 30, dairy.inTank(1));
        dairy.beginRound();
        dairy.visit(0);
        Check.due("5 inTank(0) after a visit", 0, dairy.inTank(0));
        Check.due("5 inTank(1) without a visit", 30, dairy.inTank(1));
    }

    private static void pass() {
        MilkRound dairy = new MilkRound();
        for (int days : new int[] {0, -1, 31, Integer.MIN_VALUE, Integer.MAX_VALUE}) {
            Check.refused(dairy, "6 pass(" + days + ")", IllegalArgumentException.class, () -> dairy.pass(days));
        }
        dairy.addFarm(40);
        dairy.addFarm(10);
        dairy.addFarm(200);
        dairy.addCow(0, 20);
        dairy.addCow(1, 6);
        Check.due("6 pass(1), all is kept", 0, dairy.pass(1));
        Check.due("6 inTank(0) after the day 1", 16, dairy.inTank(0));
        Check.due("6 inTank(1) after the day 1", 5, dairy.inTank(1));
        Check.due("6 pass(2), days 2 and 3", 16 + 17 + 18 - 40 + 5, dairy.pass(2));
        Check.due("6 inTank(0), full", 40, dairy.inTank(0));
        Check.due("6 inTank(1), full", 10, dairy.inTank(1));
        Check.due("6 inTank(2), without cows", 0, dairy.inTank(2));
        dairy.beginRound();
        dairy.visit(0);
        Check.due("6 pass(1), day 4, with an emptied tank", 5, dairy.pass(1));
        Check.due("6 inTank(0) after the day 4", 19, dairy.inTank(0));
    }

    private static void passUpToTheLastDay() {
        MilkRound dairy = new MilkRound();
        for (int times = 0; times < 33; times++) {
            dairy.pass(30);
        }
        Check.due("6 day() after 33 times 30 days", 990, dairy.day());
        Check.refused(dairy, "6 pass(10) on day 990", IllegalArgumentException.class, () -> dairy.pass(10));
        Check.refused(dairy, "6 pass(30) on day 990", IllegalArgumentException.class, () -> dairy.pass(30));
        Check.due("6 pass(9) on day 990", 0, dairy.pass(9));
        Check.due("6 day() at the last", 999, dairy.day());
        Check.refused(dairy, "6 pass(1) on day 999", IllegalArgumentException.class, () -> dairy.pass(1));
    }

    private static void day() {
        MilkRound dairy = new MilkRound();
        Check.due("7 day()", 0, dairy.day());
        dairy.pass(1);
        Check.due("7 day() after 1", 1, dairy.day());
        dairy.pass(30);
        Check.due("7 day() after 31", 31, dairy.day());
        dairy.beginRound();
        Check.due("7 day() after a round began", 31, dairy.day());
    }
}
