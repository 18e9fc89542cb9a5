/** Calls on an object, told so that they can be made on another one too. */
interface Story {
    void tell(LeatherRoom room);

    default Story then(Story next) {
        return room -> {
            tell(room);
            next.tell(room);
        };
    }

    default LeatherRoom told() {
        LeatherRoom room = new LeatherRoom();
        tell(room);
        return room;
    }
}
