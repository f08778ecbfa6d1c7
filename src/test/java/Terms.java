/** The document's names for the numbers that the tests use. */
interface Terms {
    int NONE = PieceSwarm.NONE;

    int PLAIN = 0;
    int SEED = 1;
    int FREE = 2;
    int FALSE = 3;
    int SLOW = 4;
    int SHY = 5;

    int LEAST = Integer.MIN_VALUE;
    int GREATEST = Integer.MAX_VALUE;
}
