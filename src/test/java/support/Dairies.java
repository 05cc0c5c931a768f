/** Dairies to begin with. */
final class Dairies {
    private Dairies() {
    }

    /** Farms with one cow of best 5 each, which gives 5 litres a day, and with the milk of one day. */
    static MilkRound withFarms(int farms) {
        MilkRound dairy = new MilkRound();
        for (int farm = 0; farm < farms; farm++) {
            dairy.addFarm(200);
            dairy.addCow(farm, 5);
        }
        dairy.pass(1);
        return dairy;
    }

    /** Farms with a cow of best 30 each, whose tanks hold these litres and are full on day 30. */
    static MilkRound withFullTanks(int... rooms) {
        MilkRound dairy = new MilkRound();
        for (int farm = 0; farm < rooms.length; farm++) {
            dairy.addFarm(rooms[farm]);
            dairy.addCow(farm, 30);
        }
        dairy.pass(30);
        return dairy;
    }

    /** A round to the first farms, pumped into a vat. */
    static void collect(MilkRound dairy, int farms, int vat) {
        dairy.beginRound();
        for (int farm = 0; farm < farms; farm++) {
            dairy.visit(farm);
        }
        dairy.endRound(vat);
    }
}
