/** Calls that bring a new object into some state, to be made again on as many objects as a test needs. */
interface Recipe {
    void make(Tile tile);

    default Recipe then(Recipe more) {
        return tile -> {
            make(tile);
            more.make(tile);
        };
    }
}
