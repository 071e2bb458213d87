/** New desks for the tests. */
final class Desks {
    private Desks() {
    }

    static ShellHeap withLayers(int layers) {
        ShellHeap desk = new ShellHeap();
        for (int i = 0; i < layers; i++) {
            desk.layer();
        }
        return desk;
    }
}
