import java.util.NoSuchElementException;

/** Promises 16 to 23. */
public final class SamplesAndBatchesTest {
    public static void main(String[] args) {
        samples();
        farmOf();
        litres();
        grade();
        gradeWhereverTheMilkIs();
        gradeOf();
        batches();
        stateOf();
        stateOfABatchGradedBefore();
        share();
        Check.end();
    }

    private static void samples() {
        MilkRound dairy = Dairies.withFullTanks(60, 40);
        dairy.addVat(200);
        Check.due("16 samples() at first", 0, dairy.samples());
        dairy.beginRound();
        dairy.visit(1);
        Check.due("16 samples() after a visit", 1, dairy.samples());
        dairy.endRound(0);
        dairy.beginRound();
        dairy.visit(1);
        Check.due("16 samples() after a visit that took nothing", 1, dairy.samples());
        dairy.visit(0);
        Check.due("16 samples() over two rounds", 2, dairy.samples());
        dairy.endRound(0);
        dairy.close(0);
        Check.due("16 samples() after a close", 2, dairy.samples());
    }

    private static void farmOf() {
        MilkRound dairy = Dairies.withFullTanks(60, 40, 50);
        dairy.addVat(200);
        Check.refused(dairy, "17 farmOf(0)", IndexOutOfBoundsException.class, () -> dairy.farmOf(0));
        dairy.beginRound();
        dairy.visit(2);
        dairy.visit(0);
        dairy.endRound(0);
        dairy.beginRound();
        dairy.visit(1);
        Check.due("17 farmOf(0)", 2, dairy.farmOf(0));
        Check.due("17 farmOf(1)", 0, dairy.farmOf(1));
        Check.due("17 farmOf(2)", 1, dairy.farmOf(2));
        for (int sample : new int[] {-1, 3, 100, Integer.MIN_VALUE, Integer.MAX_VALUE}) {
            Check.refused(dairy, "17 farmOf(" + sample + ")", IndexOutOfBoundsException.class,
                    () -> dairy.farmOf(sample));
        }
    }

    private static void litres() {
        MilkRound dairy = Dairies.withFullTanks(60, 40, 150, 150, 90);
        dairy.addVat(400);
        Check.refused(dairy, "18 litres(0)", IndexOutOfBoundsException.class, () -> dairy.litres(0));
        dairy.beginRound();
        for (int farm = 0; farm < 4; farm++) {
            dairy.visit(farm);
        }
        dairy.visit(4);
        dairy.endRound(0);
        dairy.close(0);
        Check.due("18 litres(0)", 60, dairy.litres(0));
        Check.due("18 litres(1)", 40, dairy.litres(1));
        Check.due("18 litres(3)", 150, dairy.litres(3));
        for (int sample : new int[] {-1, 4, 100, Integer.MIN_VALUE, Integer.MAX_VALUE}) {
            Check.refused(dairy, "18 litres(" + sample + ")", IndexOutOfBoundsException.class,
                    () -> dairy.litres(sample));
        }
    }

    private static void grade() {
        MilkRound dairy = Dairies.withFullTanks(60, 40, 50, 30);
        dairy.addVat(400);
        Check.refused(dairy, "19 grade(0, 'a')", IndexOutOfBoundsException.class, () -> dairy.grade(0, 'a'));
        Dairies.collect(dairy, 4, 0);
        for (int sample : new int[] {-1, 4, 100, Integer.MIN_VALUE, Integer.MAX_VALUE}) {
            Check.refused(dairy, "19 grade(" + sample + ", 'd')", IndexOutOfBoundsException.class,
                    () -> dairy.grade(sample, 'd'));
        }
        for (char grade : new char[] {'d', '-', 'A', 'X', '`', 'w', 'y', ' ', (char) 0, Character.MAX_VALUE}) {
            Check.refused(dairy, "19 grade(0, " + (int) grade + ")", IllegalArgumentException.class,
                    () -> dairy.grade(0, grade));
        }
        Check.due("19 grade(2, 'c')", 3, dairy.grade(2, 'c'));
        for (char grade : new char[] {'a', 'b', 'c', 'x'}) {
            Check.refused(dairy, "19 grade(2, '" + grade + "') again", IllegalStateException.class,
                    () -> dairy.grade(2, grade));
        }
        Check.refused(dairy, "19 grade(2, '-') again", IllegalArgumentException.class, () -> dairy.grade(2, '-'));
        Check.due("19 grade(0, 'a')", 2, dairy.grade(0, 'a'));
        Check.due("19 grade(3, 'x')", 1, dairy.grade(3, 'x'));
        Check.due("19 grade(1, 'b')", 0, dairy.grade(1, 'b'));
    }

    private static void gradeWhereverTheMilkIs() {
        MilkRound dairy = Dairies.withFullTanks(60, 40, 50);
        dairy.addVat(400);
        dairy.addVat(400);
        dairy.beginRound();
        dairy.visit(0);
        dairy.endRound(0);
        dairy.close(0);
        dairy.beginRound();
        dairy.visit(1);
        dairy.endRound(0);
        dairy.beginRound();
        dairy.visit(2);
        Check.due("19 grade(2, 'a') in the tanker", 2, dairy.grade(2, 'a'));
        Check.due("19 grade(1, 'b') in a vat", 1, dairy.grade(1, 'b'));
        Check.due("19 grade(0, 'c') in a batch", 0, dairy.grade(0, 'c'));
        dairy.endRound(1);
        dairy.close(1);
        dairy.close(0);
        Check.due("19 worth(0)", 60 * 25, dairy.worth(0));
        Check.due("19 worth(1)", 50 * 40, dairy.worth(1));
        Check.due("19 worth(2)", 40 * 34, dairy.worth(2));
    }

    private static void gradeOf() {
        MilkRound dairy = Dairies.withFullTanks(60, 40, 50, 30, 20);
        dairy.addVat(400);
        Check.refused(dairy, "20 gradeOf(0)", IndexOutOfBoundsException.class, () -> dairy.gradeOf(0));
        Dairies.collect(dairy, 5, 0);
        Check.due("20 gradeOf(0) at first", '-', dairy.gradeOf(0));
        char[] grades = {'a', 'b', 'c', 'x'};
        for (int sample = 0; sample < 4; sample++) {
            dairy.grade(sample, grades[sample]);
        }
        dairy.close(0);
        for (int sample = 0; sample < 4; sample++) {
            Check.due("20 gradeOf(" + sample + ")", grades[sample], dairy.gradeOf(sample));
        }
        Check.due("20 gradeOf(4)", '-', dairy.gradeOf(4));
        for (int sample : new int[] {-1, 5, 100, Integer.MIN_VALUE, Integer.MAX_VALUE}) {
            Check.refused(dairy, "20 gradeOf(" + sample + ")", IndexOutOfBoundsException.class,
                    () -> dairy.gradeOf(sample));
        }
    }

    private static void batches() {
        MilkRound dairy = Dairies.withFarms(1);
        dairy.addVat(200);
        dairy.addVat(200);
        Check.due("21 batches() at first", 0, dairy.batches());
        Dairies.collect(dairy, 1, 1);
        Check.due("21 batches() with an open vat", 0, dairy.batches());
        dairy.close(1);
        Check.due("21 batches() after a close", 1, dairy.batches());
        dairy.pass(1);
        Dairies.collect(dairy, 1, 0);
        dairy.close(0);
        Check.due("21 batches() after two", 2, dairy.batches());
    }

    private static void stateOf() {
        MilkRound dairy = Dairies.withFullTanks(60, 40);
        dairy.addVat(400);
        Check.refused(dairy, "22 stateOf(0)", IndexOutOfBoundsException.class, () -> dairy.stateOf(0));
        Dairies.collect(dairy, 2, 0);
        dairy.close(0);
        dairy.pass(5);
        Dairies.collect(dairy, 2, 0);
        dairy.close(0);
        for (int batch : new int[] {-1, 2, 20, Integer.MIN_VALUE, Integer.MAX_VALUE}) {
            Check.refused(dairy, "22 stateOf(" + batch + ")", IndexOutOfBoundsException.class,
                    () -> dairy.stateOf(batch));
        }
        Check.due("22 stateOf(0) at first", 'w', dairy.stateOf(0));
        dairy.grade(1, 'a');
        Check.due("22 stateOf(0) with one grade", 'w', dairy.stateOf(0));
        dairy.grade(0, 'c');
        Check.due("22 stateOf(0) with all grades", 'g', dairy.stateOf(0));
        dairy.grade(3, 'x');
        Check.due("22 stateOf(1), spoilt, a grade missing", 'x', dairy.stateOf(1));
        Check.due("22 stateOf(0) beside it", 'g', dairy.stateOf(0));
        dairy.grade(2, 'a');
        Check.due("22 stateOf(1), spoilt, all grades", 'x', dairy.stateOf(1));
    }

    private static void stateOfABatchGradedBefore() {
        MilkRound dairy = Dairies.withFullTanks(60, 40);
        dairy.addVat(400);
        dairy.beginRound();
        dairy.visit(0);
        dairy.grade(0, 'b');
        dairy.endRound(0);
        dairy.close(0);
        Check.due("22 stateOf(0), graded in the tanker", 'g', dairy.stateOf(0));
        dairy.beginRound();
        dairy.visit(1);
        dairy.endRound(0);
        dairy.grade(1, 'x');
        dairy.close(0);
        Check.due("22 stateOf(1), spoilt in the vat", 'x', dairy.stateOf(1));
    }

    private static void share() {
        MilkRound dairy = Dairies.withFullTanks(20, 30, 40, 50);
        dairy.addVat(400);
        dairy.addVat(400);
        Check.refused(dairy, "23 share(0, 0)", IndexOutOfBoundsException.class, () -> dairy.share(0, 0));
        round(dairy, 3, 0);
        round(dairy, 1, 1);
        round(dairy, 0, 0);
        round(dairy, 2, 1);
        Check.refused(dairy, "23 share(0, 0) of an open vat", IndexOutOfBoundsException.class,
                () -> dairy.share(0, 0));
        dairy.close(1);
        dairy.close(0);
        Check.due("23 share(0, 0)", 1, dairy.share(0, 0));
        Check.due("23 share(0, 1)", 3, dairy.share(0, 1));
        Check.due("23 share(1, 0)", 0, dairy.share(1, 0));
        Check.due("23 share(1, 1)", 2, dairy.share(1, 1));
        for (int index : new int[] {-1, 2, 60, Integer.MIN_VALUE, Integer.MAX_VALUE}) {
            Check.refused(dairy, "23 share(0, " + index + ")", NoSuchElementException.class,
                    () -> dairy.share(0, index));
        }
        for (int batch : new int[] {-1, 2, 20, Integer.MIN_VALUE, Integer.MAX_VALUE}) {
            Check.refused(dairy, "23 share(" + batch + ", -1)", IndexOutOfBoundsException.class,
                    () -> dairy.share(batch, -1));
        }
    }

    private static void round(MilkRound dairy, int farm, int vat) {
        dairy.beginRound();
        dairy.visit(farm);
        dairy.endRound(vat);
    }
}
