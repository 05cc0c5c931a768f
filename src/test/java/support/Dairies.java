import java.util.stream.IntStream;

/** Dairies to begin with, what is done with them again and again, and numbers that are out of range. */
final class Dairies {
    private Dairies() {
    }

    /** Farms with one cow of best 5 each, which gives 5 litres a day, and with the milk of one day. */
    static MilkRound withFarms(int farms) {
        MilkRound dairy = new MilkRound();
        for (int farm = 0; farm < farms; farm++) {
            dairy.addFarm(200);
            dairy.addCow(farm, 5);
        }
        dairy.pass(1);
        return dairy;
    }

    /** Farms with a cow of best 30 each, whose tanks hold these litres and are full on day 30. */
    static MilkRound withFullTanks(int... rooms) {
        MilkRound dairy = new MilkRound();
        for (int farm = 0; farm < rooms.length; farm++) {
            dairy.addFarm(rooms[farm]);
            dairy.addCow(farm, 30);
        }
        dairy.pass(30);
        return dairy;
    }

    /** The batch 0 with the samples 0, 1, .. of the farms 0, 1, .., each with these litres. */
    static MilkRound withBatch(int... litres) {
        MilkRound dairy = withFullTanks(litres);
        dairy.addVat(900);
        collect(dairy, litres.length, 0);
        dairy.close(0);
        return dairy;
    }

    /** The same round again, into another batch, with the next samples and the same litres of full tanks. */
    static void nextBatch(MilkRound dairy, int farms) {
        dairy.pass(30);
        collect(dairy, farms, 0);
        dairy.close(0);
    }

    /** Two vats; the vat 0 has 60 shares of 5 litres from 6 farms, and there are 5 litres in each tank. */
    static MilkRound withSixtyShares() {
        MilkRound dairy = withFarms(6);
        dairy.addVat(900);
        dairy.addVat(900);
        for (int round = 0; round < 10; round++) {
            collect(dairy, 6, 0);
            dairy.pass(1);
        }
        return dairy;
    }

    /** One farm, two vats; each batch is of 5 litres, and 5 more are in the vat 0. */
    static MilkRound withBatches(int batches) {
        MilkRound dairy = withFarms(1);
        dairy.addVat(100);
        dairy.addVat(100);
        for (int batch = 0; batch < batches; batch++) {
            collect(dairy, 1, 0);
            dairy.close(0);
            dairy.pass(1);
        }
        collect(dairy, 1, 0);
        return dairy;
    }

    /** Six farms; 16 batches of 6 samples each, and a vat that is empty; there are 5 litres in each tank. */
    static MilkRound withNinetySixSamples() {
        MilkRound dairy = withFarms(6);
        dairy.addVat(900);
        for (int round = 0; round < 16; round++) {
            collect(dairy, 6, 0);
            dairy.close(0);
            dairy.pass(1);
        }
        return dairy;
    }

    /** A round to the first farms, pumped into a vat. */
    static int collect(MilkRound dairy, int farms, int vat) {
        return round(dairy, vat, IntStream.range(0, farms).toArray());
    }

    /** A round to these farms, pumped into a vat. */
    static int round(MilkRound dairy, int vat, int... farms) {
        dairy.beginRound();
        for (int farm : farms) {
            dairy.visit(farm);
        }
        return dairy.endRound(vat);
    }

    /** Grades the samples from a first one on, a letter each. */
    static void grade(MilkRound dairy, int first, String grades) {
        for (int i = 0; i < grades.length(); i++) {
            dairy.grade(first + i, grades.charAt(i));
        }
    }

    /** Numbers just outside of a range, far outside, and such as would be in it with fewer bits. */
    static int[] outside(int least, int most) {
        return IntStream.of(least - 1, most + 1, least - 2, most + 2, 0, -1, -least, 1 << 8 | least, 1 << 16 | least,
                Integer.MIN_VALUE, Integer.MIN_VALUE | least, Integer.MAX_VALUE)
                .filter(number -> number < least || number > most).distinct().toArray();
    }
}
