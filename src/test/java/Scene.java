import java.util.List;
import java.util.function.Supplier;

/** A state that refusals are tried in: how it is made, the letters of its CELLS, and how many there are of the rest. */
record Scene(String name, Supplier<RammedCobbles> make, String kinds, int rows, int carts, int heap, int firsts,
        boolean hasImage) {

    static List<Scene> all() {
        return List.of(
                new Scene("new", RammedCobbles::new, "", 0, 0, 0, 0, false),
                new Scene("carts alone", Scene::cartsAlone, "", 0, 1, 0, 0, false),
                new Scene("a street alone", Scene::streetAlone, "slk.", 2, 0, 0, 0, true),
                new Scene("sand", () -> Checks.streetOf("../..", "1x50"), "....", 2, 1, 0, 0, false),
                new Scene("none to mend", () -> Checks.streetOf("s1k2/o3s4", "1x50"), "skos", 2, 1, 0, 0, false),
                new Scene("two to mend", () -> Checks.streetOf("s1k2/.t4", "1x50"), "sk.t", 2, 1, 0, 0, false),
                new Scene("in use", Scene::inUse, "sol.tks.l", 3, 2, 3, 19, true),
                new Scene("another street since", Scene::anotherStreet, "s...", 2, 2, 9, 1, false),
                new Scene("full", Scene::full, "sssssolltkkkkkkllttooosssssttl", 5, 6, 10, 20, true));
    }

    boolean hasStreet() {
        return !kinds.isEmpty();
    }

    boolean isCell(int cell) {
        return cell >= 0 && cell < kinds.length();
    }

    boolean isStone(int cell) {
        return isCell(cell) && kinds.charAt(cell) != '.';
    }

    boolean canBeMended(int cell) {
        return ".lt".indexOf(kinds.charAt(cell)) >= 0;
    }

    int mendable() {
        return (int) kinds.chars().filter(kind -> ".lt".indexOf(kind) >= 0).count();
    }

    private static RammedCobbles cartsAlone() {
        RammedCobbles x = new RammedCobbles();
        Checks.write(x, "0x99");
        x.carts();
        x.seed(5);
        return x;
    }

    private static RammedCobbles streetAlone() {
        RammedCobbles x = Checks.streetOf("s5l3/k9.");
        x.image();
        x.blow(0, 30);
        return x;
    }

    private static RammedCobbles inUse() {
        RammedCobbles x = Checks.streetOf("s1o2l3/.t4k5/s6.l7", "0x99,2x40");
        x.grit(3);
        x.image();
        x.set(7);
        x.blow(0, 50);
        x.seed(1234567);
        x.heap(4);
        x.heap(5);
        x.heap(4);
        for (int i = 0; i < 19; i++) {
            x.first(1, 1, 0, 0);
        }
        Checks.write(x, "s1o2/.");
        return x;
    }

    private static RammedCobbles anotherStreet() {
        RammedCobbles x = Checks.streetOf("s1l2/k3.", "0x99,2x40");
        x.image();
        for (int i = 0; i < 9; i++) {
            x.heap(i + 1);
        }
        x.first(2, 20, 10, 1);
        Checks.write(x, "s1./..");
        x.street();
        Checks.write(x, "x".repeat(63));
        return x;
    }

    private static RammedCobbles full() {
        RammedCobbles x = Checks.streetOf("s1s2s3s4s5o6/l7l8t9k1k2k3/k4k5k6l7l8t9/t1o2o3o4s5s6/s7s8s9t1t2l3",
                "0x99,1x99,2x99,3x99,4x99,5x99");
        x.image();
        x.blow(8, 9);
        for (int i = 0; i < 10; i++) {
            x.heap(9);
        }
        for (int i = 0; i < 20; i++) {
            x.first(1, 1, 0, 0);
        }
        x.seed(Integer.MAX_VALUE);
        Checks.write(x, "s".repeat(64));
        return x;
    }
}
