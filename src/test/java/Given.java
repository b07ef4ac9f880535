// Objects in states that many tests start from, and the steps to them.
final class Given {
    private Given() {
    }

    static void write(SkewedSquare x, String text) {
        x.clearText();
        for (char sign : text.toCharArray()) {
            x.type(sign);
        }
    }

    static SkewedSquare withText(String text) {
        SkewedSquare x = new SkewedSquare();
        write(x, text);
        return x;
    }

    static void readLeftAndRight(SkewedSquare x, String left, String right) {
        write(x, left);
        x.read(0);
        write(x, right);
        x.read(1);
    }

    static SkewedSquare matrices(int side, String left, String right) {
        SkewedSquare x = new SkewedSquare();
        x.side(side);
        readLeftAndRight(x, left, right);
        return x;
    }

    // 1,2;3,4 times 5,6;7,8 is 19,22;43,50: one tile of four ticks.
    static SkewedSquare small() {
        return matrices(2, "1,2;3,4", "5,6;7,8");
    }

    // The result is 9,12,15;19,26,33;29,40,51: four tiles of 4, 3, 3 and 2 ticks.
    static SkewedSquare fourTiles() {
        return matrices(2, "1,2;3,4;5,6", "1,2,3;4,5,6");
    }

    static SkewedSquare allKnown() {
        SkewedSquare x = small();
        x.all();
        return x;
    }

    static SkewedSquare atWork() {
        SkewedSquare x = small();
        x.begin(0, 0);
        x.tick(2);
        return x;
    }

    static SkewedSquare tileDone() {
        SkewedSquare x = small();
        x.begin(0, 0);
        x.tick(4);
        return x;
    }

    static SkewedSquare fullText() {
        return withText("1".repeat(80));
    }

    static void doTile(SkewedSquare x, int row, int column) {
        x.begin(row, column);
        x.tick(20);
        x.drain();
    }
}
